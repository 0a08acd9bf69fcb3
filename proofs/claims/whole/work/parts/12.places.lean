/-! PagedBytes: placeOf, memoryOf; the picture of a memory; its leaves -/
theorem nI_toI64 (n : Nat) (h : n < 2 ^ 31) : (nI n).toInt64 = lN n := nI_l h
theorem lN_nlt0 {n : Nat} (h : n < 2 ^ 62) : ¬ lN n < 0 := by
  intro q
  have h1 : lN n < lN 0 := q
  rw [pk_lLT (Nat.lt_trans h (by decide)) (by decide)] at h1
  exact absurd h1 (Nat.not_lt_zero n)
set_option maxHeartbeats 4000000 in
set_option maxRecDepth 100000 in
theorem c_placeOf (l : Launch) (hst : l.stackTraces = false) (D : va_G) (kc : Nat → ClassId) (L : List Nat) (f : Nat → va_E) (sz : Nat) (am : Nat) (ham : am ∈ L) (mo : Int32) (pg ra : Nat) (hpg : pg ≤ 65536) (hem : f am = .inr (0, [.int mo, .int (nI pg), .ref ra])) (ad of : Int32) (n : Nat) (hn : n ≤ 8) : vx_Met l y_P_placeOf w_P_placeOf ({ frames := 7, cells := 1, slots := 6, locals := 105 }) (PP D kc L f sz [.ref am, .int ad, .int of, .int (nI n)]) (Qi D L f sz (fun r u => r = nI (uI ad + uI of) ∧ uI ad + uI of + n ≤ pg * 65536 ∧ u = (L, f))) (XX D L f sz (fun E u => E = eIOB ∧ ¬ (uI ad + uI of + n ≤ pg * 65536) ∧ u = (L, f))) 1 6 (pA L f sz) := by
  refine kx_metX (by decide) (Nat.le_of_ble_eq_true rfl) ?_
  intro p e s m below meth c hC hex hw hsz ls hl
  subst hsz
  have hl : lv_has ls 6 [(0, .ref am), (1, .int ad), (2, .int of), (3, .int (nI n))] := hl
  obtain ⟨⟨⟨hx, hb, hml, hown, hts⟩, hret9, hlocks⟩, hK, hE, hA⟩ := id hC
  refine lv_iload_n hx hb d_P_placeOf_0 rfl (lv_at hl 1 rfl) ?_
  refine callSl (As := [.int ad]) (n9 := 1) hC hw (c_withoutSign l D kc _ _ _ ad) k_co_P_withoutSign k_ml_P_56 k_sm_P_withoutSign k_in_P rfl rfl (by decide +kernel) rfl ⟨Nat.le_of_ble_eq_true rfl, Nat.le_of_ble_eq_true rfl⟩ hl.1 rfl (Nat.le_of_ble_eq_true rfl) d_P_placeOf_1 ⟨Nat.le_of_ble_eq_true rfl, Nat.le_of_ble_eq_true rfl⟩ (fun r u H locs hp hw => ?_)
  obtain ⟨rfl, rfl⟩ := hp
  refine lv_iload_n hx hb d_P_placeOf_4 rfl (lv_at hl 2 rfl) ?_
  refine callSl (As := [.int of]) (n9 := 1) hC hw (c_withoutSign l D kc _ _ _ of) k_co_P_withoutSign k_ml_P_56 k_sm_P_withoutSign k_in_P rfl rfl (by decide +kernel) rfl ⟨Nat.le_of_ble_eq_true rfl, Nat.le_of_ble_eq_true rfl⟩ hl.1 rfl (Nat.le_of_ble_eq_true rfl) d_P_placeOf_5 ⟨Nat.le_of_ble_eq_true rfl, Nat.le_of_ble_eq_true rfl⟩ (fun r u H locs hp hw => ?_)
  obtain ⟨rfl, rfl⟩ := hp
  refine lv_ladd hx hb d_P_placeOf_8 ?_
  refine tp_l (v := lN (uI ad + uI of)) (lN_add _ _) ?_
  refine lv_lstore (lv' := [(4, .long (lN (uI ad + uI of))), (0, .ref am), (1, .int ad), (2, .int of), (3, .int (nI n))]) hx hb d_P_placeOf_9 hl (by decide) rfl (fun ls hl => ?_)
  refine lv_aload_n hx hb d_P_placeOf_11 rfl (lv_at hl 1 rfl) ?_
  refine lv_lload hx hb d_P_placeOf_12 (lv_at hl 0 rfl) ?_
  refine lv_iload_n hx hb d_P_placeOf_14 rfl (lv_at hl 4 rfl) ?_
  have h33 : uI ad + uI of < 2 ^ 33 := by have := uI_lt ad; have := uI_lt of; omega
  refine callXSv (As := [.ref am, .long (lN (uI ad + uI of)), .int (nI n)]) (n9 := 3) hC hw (c_checkThere l hst D kc _ _ _ am ham mo pg ra hpg hem (lN (uI ad + uI of)) (nI n)) k_co_P_checkThere k_ml_P_107 k_sm_P_checkThere k_in_P rfl rfl (by decide +kernel) rfl ⟨Nat.le_of_ble_eq_true rfl, Nat.le_of_ble_eq_true rfl⟩ hl.1 rfl (Nat.le_of_ble_eq_true rfl) d_P_placeOf_15 ⟨Nat.le_of_ble_eq_true rfl, Nat.le_of_ble_eq_true rfl⟩ (fun E ce q9 u H locs ho hw h1 h2 h3 => ?_) (fun u H locs hp hw => ?_)
  · obtain ⟨rfl, ho, rfl⟩ := ho
    refine pg_out hex hlocks hw h1 h2 h3 ⟨rfl, fun h => ho ?_, rfl⟩ (Nat.le_refl _) (Nat.le_refl _)
    refine ⟨lN_nlt0 (by omega), ?_⟩
    rw [nI_toI64 n (by omega), lN_add, pk_lLE (by omega) (by omega)]
    exact h
  · obtain ⟨⟨-, hp⟩, rfl⟩ := hp
    rw [nI_toI64 n (by omega), lN_add, pk_lLE (by omega) (by omega)] at hp
    refine lv_lload hx hb d_P_placeOf_18 (lv_at hl 0 rfl) ?_
    refine lv_l2i hx hb d_P_placeOf_20 rfl ?_
    refine tp_i (v := nI (uI ad + uI of)) (lN_i _) ?_
    exact vx_ret (pg_iret hC.1 hw (⟨rfl, hp, rfl⟩) d_P_placeOf_21)
set_option maxHeartbeats 4000000 in
set_option maxRecDepth 100000 in
theorem c_memoryOf (l : Launch) (hst : l.stackTraces = false) (D : va_G) (kc : Nat → ClassId) (L : List Nat) (f : Nat → va_E) (sz : Nat) (x ms cp : Nat) (nn tt : Int32) (gm : Nat → Option Nat) (hx9 : x ∈ L) (hex9 : f x = .inr (2, [.ref ms, .ref cp, .int nn, .int tt])) (hms : ms ∈ L) (hems : f ms = .inl (kc 1, 24, .inr (.inr (.inr (.inr gm))))) (mm : Int32) : vx_Met l y_P_memoryOf w_P_memoryOf ({ frames := 6, cells := 1, slots := 6, locals := 82 }) (PP D kc L f sz [.ref x, .int mm]) (Qq D L f sz (fun r u => ∃ k, k < 24 ∧ mm = nI k ∧ r = gm k ∧ gm k ≠ none ∧ u = (L, f))) (XX D L f sz (fun E u => E = eIAE ∧ ¬ (∃ k, k < 24 ∧ mm = nI k ∧ gm k ≠ none) ∧ u = (L, f))) 1 6 (pA L f sz) := by
  refine kx_metX (by decide) (Nat.le_of_ble_eq_true rfl) ?_
  intro p e s m below meth c hC hex hw hsz ls hl
  subst hsz
  have hl : lv_has ls 2 [(0, .ref x), (1, .int mm)] := hl
  obtain ⟨⟨⟨hx, hb, hml, hown, hts⟩, hret9, hlocks⟩, hK, hE, hA⟩ := id hC
  refine lv_iload_n hx hb d_P_memoryOf_0 rfl (lv_at hl 1 rfl) ?_
  refine lv_if_lt (tgt := 22) hx hb d_P_memoryOf_1 (by decide) (fun c1 => ?_) (fun c1 => ?_)
  · exact throwS (cls := eIAE) (is := 122) (text := "there is no such memory") hC hw hst hex (by decide +kernel) k_cl_P_27 k_in_JIllegalArgumentException (by decide +kernel) hl.1 d_P_memoryOf_22 d_P_memoryOf_25 d_P_memoryOf_26 d_P_memoryOf_28 d_P_memoryOf_31 ⟨Nat.le_of_ble_eq_true rfl, Nat.le_of_ble_eq_true rfl, Nat.le_of_ble_eq_true rfl, Nat.le_of_ble_eq_true rfl⟩ (Nat.le_refl _) (Nat.le_refl _) (⟨rfl, fun h => by obtain ⟨k, h1, rfl, -⟩ := h; exact nI_pos (by omega) c1, rfl⟩)
  · refine lv_iload_n hx hb d_P_memoryOf_4 rfl (lv_at hl 1 rfl) ?_
    refine lv_aload_n hx hb d_P_memoryOf_5 rfl (lv_at hl 0 rfl) ?_
    refine get_P hC hw hx9 hex9 0 (by decide) k_fl_P_11 rfl d_P_memoryOf_6 ?_
    refine len_M hC hw hms hems d_P_memoryOf_9 ?_
    refine lv_icmp_ge (tgt := 22) hx hb d_P_memoryOf_10 (by decide) (fun c2 => ?_) (fun c2 => ?_)
    · exact throwS (cls := eIAE) (is := 122) (text := "there is no such memory") hC hw hst hex (by decide +kernel) k_cl_P_27 k_in_JIllegalArgumentException (by decide +kernel) hl.1 d_P_memoryOf_22 d_P_memoryOf_25 d_P_memoryOf_26 d_P_memoryOf_28 d_P_memoryOf_31 ⟨Nat.le_of_ble_eq_true rfl, Nat.le_of_ble_eq_true rfl, Nat.le_of_ble_eq_true rfl, Nat.le_of_ble_eq_true rfl⟩ (Nat.le_refl _) (Nat.le_refl _) (⟨rfl, fun h => by obtain ⟨k, h1, rfl, -⟩ := h; exact nI_ge h1 (by omega) c2, rfl⟩)
    · obtain ⟨k, hk, rfl⟩ : ∃ k, k < 24 ∧ mm = nI k := by
        obtain ⟨j, h1, h2, -⟩ := pk_mu (L := 24) c1 c2 (by decide)
        exact ⟨j, h1, h2⟩
      refine lv_aload_n hx hb d_P_memoryOf_13 rfl (lv_at hl 0 rfl) ?_
      refine get_P hC hw hx9 hex9 0 (by decide) k_fl_P_11 rfl d_P_memoryOf_14 ?_
      refine lv_iload_n hx hb d_P_memoryOf_17 rfl (lv_at hl 1 rfl) ?_
      refine ald_M hC hw hms hems (hk) (by decide) d_P_memoryOf_18 ?_
      cases hg : gm k with
      | none =>
        refine lv_ifnonnullN hx hb d_P_memoryOf_19 ?_
        exact throwS (cls := eIAE) (is := 122) (text := "there is no such memory") hC hw hst hex (by decide +kernel) k_cl_P_27 k_in_JIllegalArgumentException (by decide +kernel) hl.1 d_P_memoryOf_22 d_P_memoryOf_25 d_P_memoryOf_26 d_P_memoryOf_28 d_P_memoryOf_31 ⟨Nat.le_of_ble_eq_true rfl, Nat.le_of_ble_eq_true rfl, Nat.le_of_ble_eq_true rfl, Nat.le_of_ble_eq_true rfl⟩ (Nat.le_refl _) (Nat.le_refl _) (⟨rfl, fun h => by obtain ⟨k2, h1, h2, h3⟩ := h; rw [nI_eq (by omega) (by omega)] at h2; subst h2; exact h3 hg, rfl⟩)
      | some am =>
        refine lv_ifnonnull (tgt := 32) hx hb d_P_memoryOf_19 (by decide) ?_
        refine lv_aload_n hx hb d_P_memoryOf_32 rfl (lv_at hl 0 rfl) ?_
        refine get_P hC hw hx9 hex9 0 (by decide) k_fl_P_11 rfl d_P_memoryOf_33 ?_
        refine lv_iload_n hx hb d_P_memoryOf_36 rfl (lv_at hl 1 rfl) ?_
        refine ald_M hC hw hms hems (hk) (by decide) d_P_memoryOf_37 ?_
        refine W.widen (k := 1) (n := 6) (by omega) (by omega) ?_
        exact vx_ret (pg_aret hC.1 hw (⟨k, hk, rfl, rfl, by rw [hg]; exact fun h => (Option.some_ne_none _ h), rfl⟩) d_P_memoryOf_38)
