/-! Memory: bytes and numbers -/
set_option maxHeartbeats 4000000 in
set_option maxRecDepth 100000 in
theorem c_M_putByte_some (l : Launch) (D : va_G) (kc : Nat → ClassId) (L : List Nat) (f : Nat → va_E) (sz : Nat) (tg : Nat → Nat × Nat) (k am ra : Nat) (mo : Int32) (pg N : Nat) (g : Nat → Option Nat) (bs : Nat → Nat) (hm : memG kc L f tg k am ra mo pg N g bs) (P : Nat) (hP : P < 1024 * N) (v : Nat) (hv9 : v < 256) (w0 : Nat) (hg0 : g (P / 1024) = some w0) : Met l y_M_putByte w_M_putByte ({ frames := 1, cells := 0, slots := 0, locals := 21 }) (PP D kc L f sz [.ref am, .int (nI P), .int (sb_b v)]) (Qv D L f sz (fun u => ∃ tg' g', memG kc u.1 u.2 tg' k am ra mo pg N g' (va_up bs P v) ∧ g' (P / 1024) ≠ none ∧ (∀ r, r ≠ P / 1024 → g' r = g r) ∧ Ext (fun i => i = k) L f tg u tg')) 0 0 (pA L f sz) := by
  refine kx_met (by decide) (Nat.le_of_ble_eq_true rfl) ?_
  intro p e s m below meth c hC hnm hw hsz ls hl
  subst hsz
  have hl : lv_has ls 4 [(0, .ref am), (1, .int (nI P)), (2, .int (sb_b v))] := hl
  obtain ⟨⟨⟨hx, hb, hml, hown, hts⟩, hret9, hlocks⟩, hK, hE, hA⟩ := id hC
  obtain ⟨⟨ham, hta, hem⟩, ⟨hra, htr, her⟩, hN, hbs, hrow⟩ := id hm
  have hr : P / 1024 < N := by omega
  have h31 : P < 2 ^ 31 := by omega
  refine lv_aload_n hx hb d_M_putByte_0 rfl (lv_at hl 0 rfl) ?_
  refine lv_iload_n hx hb d_M_putByte_1 rfl (lv_at hl 1 rfl) ?_
  refine lv_sipush (v := 1024) hx hb d_M_putByte_2 (by decide) ?_
  refine lv_idiv hx hb d_M_putByte_5 (by decide) ?_
  refine tp_i (v := nI (P / 1024)) (pk_div (d := 1024) h31 (by decide) (by decide)) ?_
  refine callVq (As := [.int (nI (P / 1024))]) (n9 := 1) hC hw (c_M_rowToWrite_some l D kc _ _ _ am ra mo pg N g ham hem hra her hN (P / 1024) hr w0 hg0) k_co_M_rowToWrite k_ml_M_62 k_im_M_rowToWrite k_se_M_rowToWrite k_in_M rfl rfl (by decide +kernel) rfl ⟨Nat.le_of_ble_eq_true rfl, Nat.le_of_ble_eq_true rfl⟩ ham hem rfl hl.1 rfl (Nat.le_of_ble_eq_true rfl) d_M_putByte_6 ⟨Nat.le_of_ble_eq_true rfl, Nat.le_of_ble_eq_true rfl⟩ (fun o u H locs hp hw => ?_)
  obtain ⟨rfl, rfl⟩ := hp
  obtain ⟨w9, b9, hh, hg, hw9, htw, hfw, hb9, htb, hfb, hv⟩ : ∃ (w b : Nat) (h : Nat → Int32), g (P / 1024) = some w ∧ w ∈ L ∧ tg w = (k, 2 + 2 * (P / 1024)) ∧ f w = .inr (1, [.ref b]) ∧ b ∈ L ∧ tg b = (k, 3 + 2 * (P / 1024)) ∧ f b = .inl (kc 0, 1024, .inl h) ∧ ∀ j, j < 1024 → h j = sb_b (bs (1024 * (P / 1024) + j)) := by
    rcases hrow (P / 1024) hr with ⟨hn, -⟩ | hh
    · rw [hg0] at hn; cases hn
    · exact hh
  refine tp_v (v := .ref w9) (by rw [← hg0, hg]; rfl) ?_
  refine lv_astore_n (lv' := [(3, .ref w9), (0, .ref am), (1, .int (nI P)), (2, .int (sb_b v))]) hx hb d_M_putByte_9 rfl hl (by decide) rfl (fun ls hl => ?_)
  refine lv_aload_n hx hb d_M_putByte_10 rfl (lv_at hl 0 rfl) ?_
  refine lv_ifnull hx hb d_M_putByte_11 ?_
  refine lv_iload_n hx hb d_M_putByte_14 rfl (lv_at hl 2 rfl) ?_
  refine lv_if_lt (tgt := 29) hx hb d_M_putByte_15 (by decide) (fun c1 => (nI_pos h31 c1).elim) (fun c1 => ?_)
  refine lv_aload_n hx hb d_M_putByte_18 rfl (lv_at hl 0 rfl) ?_
  refine get_W hC hw hw9 hfw 0 (by decide) k_fl_M_52 rfl d_M_putByte_19 ?_
  refine lv_iload_n hx hb d_M_putByte_22 rfl (lv_at hl 2 rfl) ?_
  refine lv_sipush (v := 1024) hx hb d_M_putByte_23 (by decide) ?_
  refine lv_irem hx hb d_M_putByte_26 (by decide) ?_
  refine tp_i (v := nI (P % 1024)) (pk_rem (d := 1024) h31 (by decide) (by decide)) ?_
  refine lv_iload_n hx hb d_M_putByte_27 rfl (lv_at hl 3 rfl) ?_
  refine ast_B hC hw hb9 hfb (y := sb_b v) (by exact pk_vb (nI v)) (show P % 1024 < 1024 by omega) (by decide) d_M_putByte_28 (fun H locs hw => ?_)
  have key := memG_put hm hr hg hw9 htw hfw hb9 htb hfb (h' := upd hh (P % 1024) (sb_b v)) (bs' := va_up bs P v) (by
    intro j
    by_cases e : j = P
    · rw [e, va_up_self]; exact hv9
    · rw [va_up_ne _ _ e]; exact hbs j) (by
    intro j hj
    by_cases e : j = P % 1024
    · rw [e, pk_us, show 1024 * (P / 1024) + P % 1024 = P by omega, va_up_self]
    · rw [pk_un e, va_up_ne _ _ (by omega)]; exact hv j hj) (fun j hj => va_up_ne _ _ (by omega))
  exact pg_vret hC.1 hw (⟨tg, g, key.1, by rw [hg0]; exact (fun h => Option.some_ne_none _ h), fun _ _ => rfl, key.2⟩) d_M_putByte_29
set_option maxHeartbeats 4000000 in
set_option maxRecDepth 100000 in
theorem c_M_putByte_none (l : Launch) (D : va_G) (kc : Nat → ClassId) (L : List Nat) (f : Nat → va_E) (sz : Nat) (tg : Nat → Nat × Nat) (k am ra : Nat) (mo : Int32) (pg N : Nat) (g : Nat → Option Nat) (bs : Nat → Nat) (hm : memG kc L f tg k am ra mo pg N g bs) (P : Nat) (hP : P < 1024 * N) (v : Nat) (hv9 : v < 256) (hg0 : g (P / 1024) = none) : Met l y_M_putByte w_M_putByte ({ frames := 3, cells := 2, slots := 1025, locals := 53 }) (PP D kc L f sz [.ref am, .int (nI P), .int (sb_b v)]) (Qv D L f sz (fun u => ∃ tg' g', memG kc u.1 u.2 tg' k am ra mo pg N g' (va_up bs P v) ∧ g' (P / 1024) ≠ none ∧ (∀ r, r ≠ P / 1024 → g' r = g r) ∧ Ext (fun i => i = k) L f tg u tg')) 2 1025 (pA L f sz) := by
  refine kx_met (by decide) (Nat.le_of_ble_eq_true rfl) ?_
  intro p e s m below meth c hC hnm hw hsz ls hl
  subst hsz
  have hl : lv_has ls 4 [(0, .ref am), (1, .int (nI P)), (2, .int (sb_b v))] := hl
  obtain ⟨⟨⟨hx, hb, hml, hown, hts⟩, hret9, hlocks⟩, hK, hE, hA⟩ := id hC
  obtain ⟨⟨ham, hta, hem⟩, ⟨hra, htr, her⟩, hN, hbs, hrow⟩ := id hm
  have hr : P / 1024 < N := by omega
  have h31 : P < 2 ^ 31 := by omega
  refine lv_aload_n hx hb d_M_putByte_0 rfl (lv_at hl 0 rfl) ?_
  refine lv_iload_n hx hb d_M_putByte_1 rfl (lv_at hl 1 rfl) ?_
  refine lv_sipush (v := 1024) hx hb d_M_putByte_2 (by decide) ?_
  refine lv_idiv hx hb d_M_putByte_5 (by decide) ?_
  refine tp_i (v := nI (P / 1024)) (pk_div (d := 1024) h31 (by decide) (by decide)) ?_
  refine callVq (As := [.int (nI (P / 1024))]) (n9 := 1) hC hw (c_M_rowToWrite_none l D kc _ _ _ tg k am ra mo pg N g bs hm (P / 1024) hr hg0) k_co_M_rowToWrite k_ml_M_62 k_im_M_rowToWrite k_se_M_rowToWrite k_in_M rfl rfl (by decide +kernel) rfl ⟨Nat.le_of_ble_eq_true rfl, Nat.le_of_ble_eq_true rfl⟩ ham hem rfl hl.1 rfl (Nat.le_of_ble_eq_true rfl) d_M_putByte_6 ⟨Nat.le_of_ble_eq_true rfl, Nat.le_of_ble_eq_true rfl⟩ (fun o u H locs hp hw => ?_)
  obtain ⟨tg1, g1, w1, rfl, hm1, hg1, hgo, he1⟩ := hp
  obtain ⟨L1, f1⟩ := u
  dsimp only at hw hm1 he1
  obtain ⟨⟨ham1, hta1, hem1⟩, ⟨hra1, htr1, her1⟩, -, -, hrow1⟩ := id hm1
  obtain ⟨w9, b9, hh, hg, hw9, htw, hfw, hb9, htb, hfb, hv⟩ : ∃ (w b : Nat) (h : Nat → Int32), g1 (P / 1024) = some w ∧ w ∈ L1 ∧ tg1 w = (k, 2 + 2 * (P / 1024)) ∧ f1 w = .inr (1, [.ref b]) ∧ b ∈ L1 ∧ tg1 b = (k, 3 + 2 * (P / 1024)) ∧ f1 b = .inl (kc 0, 1024, .inl h) ∧ ∀ j, j < 1024 → h j = sb_b (bs (1024 * (P / 1024) + j)) := by
    rcases hrow1 (P / 1024) hr with ⟨hn, -⟩ | hh
    · rw [hg1] at hn; cases hn
    · exact hh
  refine tp_v (v := .ref w9) (by rw [← hg1, hg]; rfl) ?_
  refine lv_astore_n (lv' := [(3, .ref w9), (0, .ref am), (1, .int (nI P)), (2, .int (sb_b v))]) hx hb d_M_putByte_9 rfl hl (by decide) rfl (fun ls hl => ?_)
  refine lv_aload_n hx hb d_M_putByte_10 rfl (lv_at hl 0 rfl) ?_
  refine lv_ifnull hx hb d_M_putByte_11 ?_
  refine lv_iload_n hx hb d_M_putByte_14 rfl (lv_at hl 2 rfl) ?_
  refine lv_if_lt (tgt := 29) hx hb d_M_putByte_15 (by decide) (fun c1 => (nI_pos h31 c1).elim) (fun c1 => ?_)
  refine lv_aload_n hx hb d_M_putByte_18 rfl (lv_at hl 0 rfl) ?_
  refine get_W hC hw hw9 hfw 0 (by decide) k_fl_M_52 rfl d_M_putByte_19 ?_
  refine lv_iload_n hx hb d_M_putByte_22 rfl (lv_at hl 2 rfl) ?_
  refine lv_sipush (v := 1024) hx hb d_M_putByte_23 (by decide) ?_
  refine lv_irem hx hb d_M_putByte_26 (by decide) ?_
  refine tp_i (v := nI (P % 1024)) (pk_rem (d := 1024) h31 (by decide) (by decide)) ?_
  refine lv_iload_n hx hb d_M_putByte_27 rfl (lv_at hl 3 rfl) ?_
  refine ast_B hC hw hb9 hfb (y := sb_b v) (by exact pk_vb (nI v)) (show P % 1024 < 1024 by omega) (by decide) d_M_putByte_28 (fun H locs hw => ?_)
  have key := memG_put hm1 hr hg hw9 htw hfw hb9 htb hfb (h' := upd hh (P % 1024) (sb_b v)) (bs' := va_up bs P v) (by
    intro j
    by_cases e : j = P
    · rw [e, va_up_self]; exact hv9
    · rw [va_up_ne _ _ e]; exact hbs j) (by
    intro j hj
    by_cases e : j = P % 1024
    · rw [e, pk_us, show 1024 * (P / 1024) + P % 1024 = P by omega, va_up_self]
    · rw [pk_un e, va_up_ne _ _ (by omega)]; exact hv j hj) (fun j hj => va_up_ne _ _ (by omega))
  refine W.widen (k := 2) (n := 1025) (by omega) (by omega) ?_
  exact pg_vret hC.1 hw (⟨tg1, g1, key.1, by rw [hg1]; exact (fun h => Option.some_ne_none _ h), hgo, he1.tr key.2⟩) d_M_putByte_29
set_option maxHeartbeats 4000000 in
set_option maxRecDepth 100000 in
theorem lp_numberAt {p : Program} {l : Launch} {e : Env} {R : Room} {s : State} {m : MethodId} {args : Array Value} {below : List Frame} {meth : Method} {c : Code} {Q : State → Prop} {A : Nat → Prop} {D : va_G} {kc : Nat → ClassId} {c0 : Cond} {ret : Option FieldType} {L : List Nat} {f : Nat → va_E} {tg : Nat → Nat × Nat} {k am ra : Nat} {mo : Int32} {pg N : Nat} {g : Nat → Option Nat} {bs : Nat → Nat} (hm : memG kc L f tg k am ra mo pg N g bs) {cells slots : Nat} (hcs : cells ≤ R.cells ∧ slots ≤ R.slots) (P nb : Nat) (hP : P + nb ≤ 1024 * N) (hnb : nb ≤ 8) (hC : Kx p m c b_M_numberAt 6 s args c0 R_M meth ret D kc A) (hRf : 2 ≤ R.frames) (hRl : 43 ≤ R.locals)
    (kont : ∀ (H : Heap) (locs : List Loc) (ls : Array Slot), pw D Cls A s.heap H locs L f → lv_has ls 6 [(3, .long (lN (leN bs P nb)))] → W p l e R s m args below meth c H locs cells slots Q (F0 m 35 ls [])) :
    ∀ (n : Nat) (i : Nat) (H : Heap) (locs : List Loc) (ls : Array Slot), i ≤ nb → nb + 1 ≤ i + n → pw D Cls A s.heap H locs L f → lv_has ls 6 [(5, .int (nI i)), (3, .long (lN (leN bs P i))), (0, .ref am), (1, .int (nI P)), (2, .int (nI nb))] → W p l e R s m args below meth c H locs cells slots Q (F0 m 5 ls []) := by
  obtain ⟨⟨⟨hx, hb, hml, hown, hts⟩, hret9, hlocks⟩, hK, hE, hA⟩ := id hC
  intro n
  induction n with
  | zero => intro i H locs ls hi hin hw hl; exact absurd hin (by omega)
  | succ n ih =>
    intro i H locs ls hi hin hw hl
    obtain ⟨⟨ham, hta, hem⟩, ⟨hra, htr, her⟩, hN, hbs, hrow⟩ := id hm
    refine lv_iload hx hb d_M_numberAt_5 (lv_at hl 0 rfl) ?_
    refine lv_iload_n hx hb d_M_numberAt_7 rfl (lv_at hl 4 rfl) ?_
    refine lv_icmp_ge (tgt := 35) hx hb d_M_numberAt_8 (by decide) (fun c1 => ?_) (fun c1 => ?_)
    · have e : i = nb := by
        rcases Nat.lt_or_ge i nb with q | q
        · exact absurd c1 (nI_ge q (by omega))
        · omega
      subst e
      exact kont H locs ls hw (lv_sub hl [1] rfl)
    · have hlt : i < nb := by
        rcases Nat.lt_or_ge i nb with q | q
        · exact q
        · exact absurd (nI_le q (by omega)) c1
      refine lv_lload_n hx hb d_M_numberAt_11 rfl (lv_at hl 1 rfl) ?_
      refine lv_aload_n hx hb d_M_numberAt_12 rfl (lv_at hl 2 rfl) ?_
      refine lv_iload_n hx hb d_M_numberAt_13 rfl (lv_at hl 3 rfl) ?_
      refine lv_iload hx hb d_M_numberAt_14 (lv_at hl 0 rfl) ?_
      refine lv_iadd hx hb d_M_numberAt_16 ?_
      refine tp_i (v := nI (P + i)) (nI_add P i) ?_
      refine callVi (As := [.int (nI (P + i))]) (n9 := 1) hC hw (c_M_byteAt l D kc _ _ _ tg k am ra mo pg N g bs hm (P + i) (by omega)) k_co_M_byteAt k_ml_M_36 k_im_M_byteAt k_se_M_byteAt k_in_M rfl rfl (by decide +kernel) rfl ⟨Nat.le_trans (Nat.le_of_ble_eq_true rfl) hRf, Nat.le_trans (Nat.le_of_ble_eq_true rfl) hRl⟩ ham hem rfl hl.1 rfl (Nat.le_of_ble_eq_true rfl) d_M_numberAt_17 ⟨hcs.1, hcs.2⟩ (fun r u H locs hp hw => ?_)
      obtain ⟨rfl, rfl⟩ := hp
      refine lv_i2l hx hb d_M_numberAt_20 rfl ?_
      refine lv_bipush (v := 8) hx hb d_M_numberAt_21 (by decide) ?_
      refine lv_iload hx hb d_M_numberAt_23 (lv_at hl 0 rfl) ?_
      refine lv_imul hx hb d_M_numberAt_25 ?_
      refine lv_lshl hx hb d_M_numberAt_26 rfl ?_
      refine lv_lor hx hb d_M_numberAt_27 ?_
      refine tp_l (v := lN (leN bs P (i + 1))) (le_or hbs P (by omega)) ?_
      refine lv_lstore_n (lv' := [(3, .long (lN (leN bs P (i + 1)))), (5, .int (nI i)), (0, .ref am), (1, .int (nI P)), (2, .int (nI nb))]) hx hb d_M_numberAt_28 rfl hl (by decide) rfl (fun ls hl => ?_)
      refine lv_iinc (v := nI (i + 1)) (lv' := [(5, .int (nI (i + 1))), (3, .long (lN (leN bs P (i + 1)))), (0, .ref am), (1, .int (nI P)), (2, .int (nI nb))]) hx hb d_M_numberAt_29 hl (k := 1) rfl (nI_1 i) (by decide) rfl (fun ls hl => ?_)
      refine lv_goto (tgt := 5) hx hb d_M_numberAt_32 (by decide) ?_
      exact ih (i + 1) _ _ _ (by omega) (by omega) hw (lv_sub hl [0, 1, 2, 3, 4] rfl)
set_option maxHeartbeats 4000000 in
set_option maxRecDepth 100000 in
theorem c_M_numberAt (l : Launch) (D : va_G) (kc : Nat → ClassId) (L : List Nat) (f : Nat → va_E) (sz : Nat) (tg : Nat → Nat × Nat) (k am ra : Nat) (mo : Int32) (pg N : Nat) (g : Nat → Option Nat) (bs : Nat → Nat) (hm : memG kc L f tg k am ra mo pg N g bs) (P nb : Nat) (hP : P + nb ≤ 1024 * N) (hnb : nb ≤ 8) : Met l y_M_numberAt w_M_numberAt ({ frames := 2, cells := 0, slots := 0, locals := 43 }) (PP D kc L f sz [.ref am, .int (nI P), .int (nI nb)]) (Ql D L f sz (fun r u => r = lN (leN bs P nb) ∧ u = (L, f))) 0 0 (pA L f sz) := by
  refine kx_met (by decide) (Nat.le_of_ble_eq_true rfl) ?_
  intro p e s m below meth c hC hnm hw hsz ls hl
  subst hsz
  have hl : lv_has ls 6 [(0, .ref am), (1, .int (nI P)), (2, .int (nI nb))] := hl
  obtain ⟨⟨⟨hx, hb, hml, hown, hts⟩, hret9, hlocks⟩, hK, hE, hA⟩ := id hC
  refine lv_lconst (v := 0) hx hb d_M_numberAt_0 (by decide) ?_
  refine lv_lstore_n (lv' := [(3, .long 0), (0, .ref am), (1, .int (nI P)), (2, .int (nI nb))]) hx hb d_M_numberAt_1 rfl hl (by decide) rfl (fun ls hl => ?_)
  refine lv_iconst (v := 0) hx hb d_M_numberAt_2 (by decide) ?_
  refine lv_istore (lv' := [(5, .int 0), (3, .long 0), (0, .ref am), (1, .int (nI P)), (2, .int (nI nb))]) hx hb d_M_numberAt_3 hl (by decide) rfl (fun ls hl => ?_)
  refine lp_numberAt hm ⟨Nat.zero_le _, Nat.zero_le _⟩ P nb hP hnb hC (Nat.le_of_ble_eq_true rfl) (Nat.le_of_ble_eq_true rfl) (fun H locs ls hw hl => ?_) (nb + 1) 0 _ _ _ (Nat.zero_le _) (by omega) hw (lv_sub hl [0, 1, 2, 3, 4] rfl)
  refine lv_lload_n hx hb d_M_numberAt_35 rfl (lv_at hl 0 rfl) ?_
  exact pg_lret hC.1 hw (⟨rfl, rfl⟩) d_M_numberAt_36
