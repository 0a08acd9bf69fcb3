/-! PagedBytes: the public methods -/
theorem root_iff {kc : Nat → ClassId} {L : List Nat} {f : Nat → va_E} {tg : Nat → Nat × Nat} {x ms cp : Nat} {gm : Nat → Option Nat} {hc : Nat → Int32} {n : Nat} {mo : Nat → Int32} {om : Nat → Nat} {al : Nat} {bs : Nat → Nat → Nat} (h : rootG kc L f tg x ms cp gm hc n mo om al bs) {k : Nat} (h1 : k < 24) (h2 : gm k ≠ none) : k < n := by
  rcases Nat.lt_or_ge k n with q | q
  · exact q
  · exact absurd (h.2.1 k q h1) h2
theorem root_not {kc : Nat → ClassId} {L : List Nat} {f : Nat → va_E} {tg : Nat → Nat × Nat} {x ms cp : Nat} {gm : Nat → Option Nat} {hc : Nat → Int32} {n : Nat} {mo : Nat → Int32} {om : Nat → Nat} {al : Nat} {bs : Nat → Nat → Nat} (h : rootG kc L f tg x ms cp gm hc n mo om al bs) (hn : n ≤ 24) {m : Int32} (hno : ¬ (∃ k, k < 24 ∧ m = nI k ∧ gm k ≠ none)) : ¬ (∃ k, k < n ∧ m = nI k) := by
  rintro ⟨k, hk, e⟩
  obtain ⟨am, _, _, _, e1, _⟩ := h.2.2 k hk
  exact hno ⟨k, by omega, e, by rw [e1]; exact fun q => Option.some_ne_none _ q⟩
/-- what fits answers -/
def fitV (pg mo least most : Int32) : Int32 := if least ≤ pg ∧ (most = -1 ∨ (mo ≠ -1 ∧ mo ≤ most)) then 1 else 0
set_option maxHeartbeats 4000000 in
set_option maxRecDepth 100000 in
theorem c_P_pages (l : Launch) (hst : l.stackTraces = false) (D : va_G) (kc : Nat → ClassId) (L : List Nat) (f : Nat → va_E) (sz : Nat) (x ms cp : Nat) (gm : Nat → Option Nat) (hc : Nat → Int32) (tg : Nat → Nat × Nat) (nm : Nat) (mo : Nat → Int32) (om : Nat → Nat) (al : Nat) (bs : Nat → Nat → Nat) (hg : rootG kc L f tg x ms cp gm hc nm mo om al bs) (hs : stOK nm mo om al bs) (mm : Int32) : vx_Met l y_P_pages w_P_pages ({ frames := 7, cells := 1, slots := 6, locals := 103 }) (PP D kc L f sz [.ref x, .int mm]) (Qi D L f sz (fun r u => ∃ k, k < nm ∧ mm = nI k ∧ r = nI (cnt om al k) ∧ u = (L, f))) (XX D L f sz (fun E u => E = eIAE ∧ ¬ (∃ k, k < nm ∧ mm = nI k) ∧ u = (L, f))) 1 6 (pA L f sz) := by
  refine kx_metX (by decide) (Nat.le_of_ble_eq_true rfl) ?_
  intro p e s m below meth c hC hex hw hsz ls hl
  subst hsz
  have hl : lv_has ls 2 [(0, .ref x), (1, .int mm)] := hl
  obtain ⟨⟨⟨hx, hb, hml, hown, hts⟩, hret9, hlocks⟩, hK, hE, hA⟩ := id hC
  obtain ⟨⟨⟨hxL, htx, hfx⟩, ⟨hmsL, htms, hfms⟩, ⟨hcpL, htcp, hfcp⟩⟩, hgn, hgk9⟩ := id hg
  obtain ⟨hs1, hs2, hs3, hs4, hs5, hs6⟩ := id hs
  refine lv_aload_n hx hb d_P_pages_0 rfl (lv_at hl 0 rfl) ?_
  refine lv_iload_n hx hb d_P_pages_1 rfl (lv_at hl 1 rfl) ?_
  refine callXVq (As := [.int mm]) (n9 := 1) hC hw (c_memoryOf l hst D kc _ _ _ x ms cp (nI nm) (nI al) gm hxL hfx hmsL hfms mm) k_co_P_memoryOf k_ml_P_49 k_im_P_memoryOf k_se_P_memoryOf k_in_P rfl rfl (by decide +kernel) rfl ⟨Nat.le_of_ble_eq_true rfl, Nat.le_of_ble_eq_true rfl⟩ hxL hfx rfl hl.1 rfl (Nat.le_of_ble_eq_true rfl) d_P_pages_2 ⟨Nat.le_of_ble_eq_true rfl, Nat.le_of_ble_eq_true rfl⟩ (fun E ce q9 u H locs ho hw h1 h2 h3 => ?_) (fun o u H locs hp hw => ?_)
  · obtain ⟨rfl, ho, rfl⟩ := ho
    have hno := root_not hg hs1 ho
    exact pg_out hex hlocks hw h1 h2 h3 (⟨rfl, hno, rfl⟩) (by omega) (by omega)
  · obtain ⟨k, hk24, rfl, rfl, hne, rfl⟩ := hp
    have hkn : k < nm := root_iff hg hk24 hne
    obtain ⟨am, ra, N, g, hgk, hm, hNof⟩ := hgk9 k hkn
    obtain ⟨⟨ham, hta, hem⟩, ⟨hra, htr, her⟩, hN, hbs, hrow⟩ := id hm
    obtain ⟨hpN, hp16⟩ := Nof_le hs hkn hNof
    refine tp_v (v := .ref am) (by rw [hgk]; rfl) ?_
    refine get_M hC hw ham hem 1 (by decide) k_fl_P_53 rfl d_P_pages_5 ?_
    exact vx_ret (pg_iret hC.1 hw (⟨k, hkn, rfl, rfl, rfl⟩) d_P_pages_8)
set_option maxHeartbeats 4000000 in
set_option maxRecDepth 100000 in
theorem c_P_fits (l : Launch) (hst : l.stackTraces = false) (D : va_G) (kc : Nat → ClassId) (L : List Nat) (f : Nat → va_E) (sz : Nat) (x ms cp : Nat) (gm : Nat → Option Nat) (hc : Nat → Int32) (tg : Nat → Nat × Nat) (nm : Nat) (mo : Nat → Int32) (om : Nat → Nat) (al : Nat) (bs : Nat → Nat → Nat) (hg : rootG kc L f tg x ms cp gm hc nm mo om al bs) (hs : stOK nm mo om al bs) (mm least most : Int32) : vx_Met l y_P_fits w_P_fits ({ frames := 7, cells := 1, slots := 6, locals := 103 }) (PP D kc L f sz [.ref x, .int mm, .int least, .int most]) (Qi D L f sz (fun r u => ∃ k, k < nm ∧ mm = nI k ∧ r = fitV (nI (cnt om al k)) (mo k) least most ∧ u = (L, f))) (XX D L f sz (fun E u => E = eIAE ∧ ¬ (∃ k, k < nm ∧ mm = nI k) ∧ u = (L, f))) 1 6 (pA L f sz) := by
  refine kx_metX (by decide) (Nat.le_of_ble_eq_true rfl) ?_
  intro p e s m below meth c hC hex hw hsz ls hl
  subst hsz
  have hl : lv_has ls 5 [(0, .ref x), (1, .int mm), (2, .int least), (3, .int most)] := hl
  obtain ⟨⟨⟨hx, hb, hml, hown, hts⟩, hret9, hlocks⟩, hK, hE, hA⟩ := id hC
  obtain ⟨⟨⟨hxL, htx, hfx⟩, ⟨hmsL, htms, hfms⟩, ⟨hcpL, htcp, hfcp⟩⟩, hgn, hgk9⟩ := id hg
  obtain ⟨hs1, hs2, hs3, hs4, hs5, hs6⟩ := id hs
  refine lv_aload_n hx hb d_P_fits_0 rfl (lv_at hl 0 rfl) ?_
  refine lv_iload_n hx hb d_P_fits_1 rfl (lv_at hl 1 rfl) ?_
  refine callXVq (As := [.int mm]) (n9 := 1) hC hw (c_memoryOf l hst D kc _ _ _ x ms cp (nI nm) (nI al) gm hxL hfx hmsL hfms mm) k_co_P_memoryOf k_ml_P_49 k_im_P_memoryOf k_se_P_memoryOf k_in_P rfl rfl (by decide +kernel) rfl ⟨Nat.le_of_ble_eq_true rfl, Nat.le_of_ble_eq_true rfl⟩ hxL hfx rfl hl.1 rfl (Nat.le_of_ble_eq_true rfl) d_P_fits_2 ⟨Nat.le_of_ble_eq_true rfl, Nat.le_of_ble_eq_true rfl⟩ (fun E ce q9 u H locs ho hw h1 h2 h3 => ?_) (fun o u H locs hp hw => ?_)
  · obtain ⟨rfl, ho, rfl⟩ := ho
    have hno := root_not hg hs1 ho
    exact pg_out hex hlocks hw h1 h2 h3 (⟨rfl, hno, rfl⟩) (by omega) (by omega)
  · obtain ⟨k, hk24, rfl, rfl, hne, rfl⟩ := hp
    have hkn : k < nm := root_iff hg hk24 hne
    obtain ⟨am, ra, N, g, hgk, hm, hNof⟩ := hgk9 k hkn
    obtain ⟨⟨ham, hta, hem⟩, ⟨hra, htr, her⟩, hN, hbs, hrow⟩ := id hm
    obtain ⟨hpN, hp16⟩ := Nof_le hs hkn hNof
    refine tp_v (v := .ref am) (by rw [hgk]; rfl) ?_
    refine lv_astore (lv' := [(4, .ref am), (0, .ref x), (1, .int (nI k)), (2, .int least), (3, .int most)]) hx hb d_P_fits_5 hl (by decide) rfl (fun ls hl => ?_)
    refine lv_aload hx hb d_P_fits_7 (lv_at hl 0 rfl) ?_
    refine get_M hC hw ham hem 1 (by decide) k_fl_P_53 rfl d_P_fits_9 ?_
    refine lv_iload_n hx hb d_P_fits_12 rfl (lv_at hl 3 rfl) ?_
    refine lv_icmp_ge (tgt := 18) hx hb d_P_fits_13 (by decide) (fun c1 => ?_) (fun c1 => ?_)
    · refine lv_iload_n hx hb d_P_fits_18 rfl (lv_at hl 4 rfl) ?_
      refine lv_iconst (v := (-1)) hx hb d_P_fits_19 (by decide) ?_
      refine lv_icmp_eq (tgt := 41) hx hb d_P_fits_20 (by decide) (fun c2 => ?_) (fun c2 => ?_)
      · refine lv_iconst (v := 1) hx hb d_P_fits_41 (by decide) ?_
        refine lv_goto (tgt := 46) hx hb d_P_fits_42 (by decide) ?_
        exact vx_ret (pg_zret hC.1 hw (by decide) (⟨k, hkn, rfl, by unfold fitV; rw [if_pos ⟨c1, Or.inl c2⟩], rfl⟩) d_P_fits_46)
      · refine lv_aload hx hb d_P_fits_23 (lv_at hl 0 rfl) ?_
        refine get_M hC hw ham hem 0 (by decide) k_fl_P_66 rfl d_P_fits_25 ?_
        refine lv_iconst (v := (-1)) hx hb d_P_fits_28 (by decide) ?_
        refine lv_icmp_eq (tgt := 45) hx hb d_P_fits_29 (by decide) (fun c3 => ?_) (fun c3 => ?_)
        · refine lv_iconst (v := 0) hx hb d_P_fits_45 (by decide) ?_
          exact vx_ret (pg_zret hC.1 hw (by decide) (⟨k, hkn, rfl, by unfold fitV; rw [if_neg (fun h => h.2.elim c2 (fun q => q.1 c3))], rfl⟩) d_P_fits_46)
        · refine lv_aload hx hb d_P_fits_32 (lv_at hl 0 rfl) ?_
          refine get_M hC hw ham hem 0 (by decide) k_fl_P_66 rfl d_P_fits_34 ?_
          refine lv_iload_n hx hb d_P_fits_37 rfl (lv_at hl 4 rfl) ?_
          refine lv_icmp_gt (tgt := 45) hx hb d_P_fits_38 (by decide) (fun c4 => ?_) (fun c4 => ?_)
          · refine lv_iconst (v := 0) hx hb d_P_fits_45 (by decide) ?_
            exact vx_ret (pg_zret hC.1 hw (by decide) (⟨k, hkn, rfl, by unfold fitV; rw [if_neg (fun h => h.2.elim c2 (fun q => Int32.not_lt.mpr q.2 c4))], rfl⟩) d_P_fits_46)
          · refine lv_iconst (v := 1) hx hb d_P_fits_41 (by decide) ?_
            refine lv_goto (tgt := 46) hx hb d_P_fits_42 (by decide) ?_
            exact vx_ret (pg_zret hC.1 hw (by decide) (⟨k, hkn, rfl, by unfold fitV; rw [if_pos ⟨c1, Or.inr ⟨c3, Int32.not_lt.mp c4⟩⟩], rfl⟩) d_P_fits_46)
    · refine lv_iconst (v := 0) hx hb d_P_fits_16 (by decide) ?_
      exact vx_ret (pg_zret hC.1 hw (by decide) (⟨k, hkn, rfl, by unfold fitV; rw [if_neg (fun h => c1 h.1)], rfl⟩) d_P_fits_17)
set_option maxHeartbeats 4000000 in
set_option maxRecDepth 100000 in
theorem c_P_sum (l : Launch) (hst : l.stackTraces = false) (D : va_G) (kc : Nat → ClassId) (L : List Nat) (f : Nat → va_E) (sz : Nat) (x ms cp : Nat) (gm : Nat → Option Nat) (hc : Nat → Int32) (tg : Nat → Nat × Nat) (nm : Nat) (mo : Nat → Int32) (om : Nat → Nat) (al : Nat) (bs : Nat → Nat → Nat) (hg : rootG kc L f tg x ms cp gm hc nm mo om al bs) (hs : stOK nm mo om al bs) (mm fr cn : Int32) : vx_Met l y_P_sum w_P_sum ({ frames := 7, cells := 3, slots := 18, locals := 105 }) (PP D kc L f sz [.ref x, .int mm, .int fr, .int cn]) (Qi D L f sz (fun r u => ∃ k, k < nm ∧ mm = nI k ∧ ∃ nb, nb ≤ 65536 ∧ cn = nI nb ∧ ((nb = 0 ∧ r = 0) ∨ (0 < nb ∧ ∃ P, fr = nI P ∧ P + nb ≤ 65536 * cnt om al k ∧ r = wsum (bs k) P (nI nb) nb)) ∧ u = (L, f))) (XX D L f sz (fun E u => ((E = eIAE ∧ ¬ ((∃ k, k < nm ∧ mm = nI k) ∧ ¬ cn < 0 ∧ cn ≤ 65536)) ∨ (E = eIOB ∧ ∃ k, k < nm ∧ mm = nI k ∧ ∃ nb, nb ≤ 65536 ∧ cn = nI nb ∧ 0 < nb ∧ ¬ (∃ P, fr = nI P ∧ P + nb ≤ 65536 * cnt om al k))) ∧ u = (L, f))) 3 18 (pA L f sz) := by
  refine kx_metX (by decide) (Nat.le_of_ble_eq_true rfl) ?_
  intro p e s m below meth c hC hex hw hsz ls hl
  subst hsz
  have hl : lv_has ls 5 [(0, .ref x), (1, .int mm), (2, .int fr), (3, .int cn)] := hl
  obtain ⟨⟨⟨hx, hb, hml, hown, hts⟩, hret9, hlocks⟩, hK, hE, hA⟩ := id hC
  obtain ⟨⟨⟨hxL, htx, hfx⟩, ⟨hmsL, htms, hfms⟩, ⟨hcpL, htcp, hfcp⟩⟩, hgn, hgk9⟩ := id hg
  obtain ⟨hs1, hs2, hs3, hs4, hs5, hs6⟩ := id hs
  refine lv_aload_n hx hb d_P_sum_0 rfl (lv_at hl 0 rfl) ?_
  refine lv_iload_n hx hb d_P_sum_1 rfl (lv_at hl 1 rfl) ?_
  refine callXVq (As := [.int mm]) (n9 := 1) hC hw (c_memoryOf l hst D kc _ _ _ x ms cp (nI nm) (nI al) gm hxL hfx hmsL hfms mm) k_co_P_memoryOf k_ml_P_49 k_im_P_memoryOf k_se_P_memoryOf k_in_P rfl rfl (by decide +kernel) rfl ⟨Nat.le_of_ble_eq_true rfl, Nat.le_of_ble_eq_true rfl⟩ hxL hfx rfl hl.1 rfl (Nat.le_of_ble_eq_true rfl) d_P_sum_2 ⟨Nat.le_of_ble_eq_true rfl, Nat.le_of_ble_eq_true rfl⟩ (fun E ce q9 u H locs ho hw h1 h2 h3 => ?_) (fun o u H locs hp hw => ?_)
  · obtain ⟨rfl, ho, rfl⟩ := ho
    have hno := root_not hg hs1 ho
    exact pg_out hex hlocks hw h1 h2 h3 (⟨Or.inl ⟨rfl, fun h => hno h.1⟩, rfl⟩) (by omega) (by omega)
  · obtain ⟨k, hk24, rfl, rfl, hne, rfl⟩ := hp
    have hkn : k < nm := root_iff hg hk24 hne
    obtain ⟨am, ra, N, g, hgk, hm, hNof⟩ := hgk9 k hkn
    obtain ⟨⟨ham, hta, hem⟩, ⟨hra, htr, her⟩, hN, hbs, hrow⟩ := id hm
    obtain ⟨hpN, hp16⟩ := Nof_le hs hkn hNof
    refine tp_v (v := .ref am) (by rw [hgk]; rfl) ?_
    refine lv_astore (lv' := [(4, .ref am), (0, .ref x), (1, .int (nI k)), (2, .int fr), (3, .int cn)]) hx hb d_P_sum_5 hl (by decide) rfl (fun ls hl => ?_)
    refine lv_iload_n hx hb d_P_sum_7 rfl (lv_at hl 4 rfl) ?_
    refine lv_ldc (v := 65536) hx hb hown (hts _ (gg_mem k_cn_P_26)) d_P_sum_8 ?_
    refine callXSv (As := [.int cn, .int 65536]) (n9 := 2) hC hw (c_checkCount l hst D kc _ _ _ cn 65536) k_co_P_checkCount k_ml_P_104 k_sm_P_checkCount k_in_P rfl rfl (by decide +kernel) rfl ⟨Nat.le_of_ble_eq_true rfl, Nat.le_of_ble_eq_true rfl⟩ hl.1 rfl (Nat.le_of_ble_eq_true rfl) d_P_sum_10 ⟨Nat.le_of_ble_eq_true rfl, Nat.le_of_ble_eq_true rfl⟩ (fun E ce q9 u H locs ho hw h1 h2 h3 => ?_) (fun u H locs hp hw => ?_)
    · obtain ⟨rfl, ho, rfl⟩ := ho
      exact pg_out hex hlocks hw h1 h2 h3 (⟨Or.inl ⟨rfl, fun h => ho h.2⟩, rfl⟩) (by omega) (by omega)
    · obtain ⟨⟨hc1, hc2⟩, rfl⟩ := hp
      obtain ⟨nb, hnb, rfl⟩ : ∃ j, j ≤ 65536 ∧ cn = nI j := nI_of2 (M := 65536) (n := 65536) (by decide) hc1 hc2
      refine lv_iload_n hx hb d_P_sum_13 rfl (lv_at hl 4 rfl) ?_
      refine lv_if_ne (tgt := 19) hx hb d_P_sum_14 (by decide) (fun c1 => ?_) (fun c1 => ?_)
      · have hnz : 0 < nb := by
          rcases Nat.eq_zero_or_pos nb with q | q
          · exact absurd (by rw [q]; rfl) c1
          · exact q
        refine lv_aload hx hb d_P_sum_19 (lv_at hl 0 rfl) ?_
        refine lv_iload_n hx hb d_P_sum_21 rfl (lv_at hl 3 rfl) ?_
        refine lv_i2l hx hb d_P_sum_22 rfl ?_
        refine lv_iload_n hx hb d_P_sum_23 rfl (lv_at hl 4 rfl) ?_
        refine callXSv (As := [.ref am, .long fr.toInt64, .int (nI nb)]) (n9 := 3) hC hw (c_checkThere l hst D kc _ _ _ am ham (mo k) (cnt om al k) ra (by omega) hem fr.toInt64 (nI nb)) k_co_P_checkThere k_ml_P_107 k_sm_P_checkThere k_in_P rfl rfl (by decide +kernel) rfl ⟨Nat.le_of_ble_eq_true rfl, Nat.le_of_ble_eq_true rfl⟩ hl.1 rfl (Nat.le_of_ble_eq_true rfl) d_P_sum_24 ⟨Nat.le_of_ble_eq_true rfl, Nat.le_of_ble_eq_true rfl⟩ (fun E ce q9 u H locs ho hw h1 h2 h3 => ?_) (fun u H locs hp hw => ?_)
        · obtain ⟨rfl, ho, rfl⟩ := ho
          refine pg_out hex hlocks hw h1 h2 h3 (⟨Or.inr ⟨rfl, k, hkn, rfl, nb, hnb, rfl, hnz, fun h => ho ?_⟩, rfl⟩) (by omega) (by omega)
          obtain ⟨P, rfl, hP⟩ := h
          rw [nI_toI64 P (by omega), nI_toI64 nb (by omega)]
          exact ⟨lN_nlt0 (by omega), by rw [lN_add, pk_lLE (by omega) (by omega)]; omega⟩
        · obtain ⟨⟨hq1, hq2⟩, rfl⟩ := hp
          obtain ⟨P, hP31, rfl⟩ : ∃ P, P < 2 ^ 31 ∧ fr = nI P := by
            refine nI_of (fun h => hq1 ?_)
            have h2 : fr.toInt < (0 : Int32).toInt := Int32.lt_iff_toInt_lt.mp h
            rw [Int64.lt_iff_toInt_lt, Int32.toInt_toInt64]
            exact h2
          rw [nI_toI64 P hP31, nI_toI64 nb (by omega), lN_add, pk_lLE (by omega) (by omega)] at hq2
          refine lv_aload hx hb d_P_sum_27 (lv_at hl 0 rfl) ?_
          refine lv_iload_n hx hb d_P_sum_29 rfl (lv_at hl 3 rfl) ?_
          refine lv_iload_n hx hb d_P_sum_30 rfl (lv_at hl 4 rfl) ?_
          refine callVi (As := [.int (nI P), .int (nI nb)]) (n9 := 2) hC hw (c_M_weighedSum l D kc _ _ _ tg k am ra (mo k) (cnt om al k) N g (bs k) hm P nb (by omega) ⟨hnz, hnb⟩) k_co_M_weighedSum k_ml_P_118 k_im_M_weighedSum k_se_M_weighedSum k_in_M rfl rfl (by decide +kernel) rfl ⟨Nat.le_of_ble_eq_true rfl, Nat.le_of_ble_eq_true rfl⟩ ham hem rfl hl.1 rfl (Nat.le_of_ble_eq_true rfl) d_P_sum_31 ⟨Nat.le_of_ble_eq_true rfl, Nat.le_of_ble_eq_true rfl⟩ (fun r9 u H locs hp hw => ?_)
          obtain ⟨rfl, rfl⟩ := hp
          exact vx_ret (pg_iret hC.1 hw (⟨k, hkn, rfl, nb, hnb, rfl, Or.inr ⟨hnz, P, rfl, by omega, rfl⟩, rfl⟩) d_P_sum_34)
      · refine lv_iconst (v := 0) hx hb d_P_sum_17 (by decide) ?_
        have hz : nb = 0 := nI_inj hnb (by decide) c1
        subst hz
        refine W.widen (k := 3) (n := 18) (by omega) (by omega) ?_
        exact vx_ret (pg_iret hC.1 hw (⟨k, hkn, rfl, 0, by decide, rfl, Or.inl ⟨rfl, rfl⟩, rfl⟩) d_P_sum_18)
