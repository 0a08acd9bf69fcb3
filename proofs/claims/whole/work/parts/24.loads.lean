/-! PagedBytes: load, store -/
def szL : Nat → Nat := fun j => [4, 8, 4, 8, 1, 1, 2, 2, 1, 1, 2, 2, 4, 4].getD j 0
def szS : Nat → Nat := fun j => [4, 8, 4, 8, 1, 2, 1, 2, 4].getD j 0
theorem szL_ok : ∀ kd, kd < 14 → tLB kd = nI (szL kd) ∧ 1 ≤ szL kd ∧ szL kd ≤ 8 := by decide +kernel
theorem szS_ok : ∀ kd, kd < 9 → tSB kd = nI (szS kd) ∧ 1 ≤ szS kd ∧ szS kd ≤ 8 := by decide +kernel
theorem kd_of {op : Int32} (a c : Nat) (hac : a + c < 2 ^ 30) (h1 : ¬ op < nI a) (h2 : op < nI a + nI c) : ∃ kd, kd < c ∧ op = nI (a + kd) ∧ op - nI a = nI kd := by
  have h0 : ¬ op < 0 := fun q => h1 (Int32.lt_of_lt_of_le q (nI_pos' (by omega)))
  obtain ⟨j, hj, rfl⟩ := nI_of h0
  rw [nI_ltI hj (by omega)] at h1
  rw [nI_add, nI_ltI hj (by omega)] at h2
  exact ⟨j - a, by omega, by rw [show a + (j - a) = j by omega], pk_sub (by omega)⟩
theorem kd_no {op : Int32} (a c : Nat) (hac : a + c < 2 ^ 30) (h : ¬ (¬ op < nI a ∧ op < nI a + nI c)) : ¬ (∃ kd, kd < c ∧ op = nI (a + kd)) := by
  rintro ⟨kd, h1, rfl⟩
  exact h ⟨nI_nlt (by omega) (by omega), by rw [nI_add]; exact nI_lt (by omega) (by omega)⟩
def sgnV (v : Int64) (nb : Nat) : Int64 := (v <<< ((8 * (8 - nI nb)).toInt64 &&& 63)) >>> ((8 * (8 - nI nb)).toInt64 &&& 63)
/-- what is loaded, out of the bytes -/
def loadV (kd : Nat) (v : Int64) : Int64 := if tLT kd = 4 then (if tLS kd = 1 then sgnV v (szL kd) else v) &&& 4294967295 else (if tLS kd = 1 then sgnV v (szL kd) else v)
set_option maxHeartbeats 4000000 in
set_option maxRecDepth 100000 in
theorem c_P_load (l : Launch) (hst : l.stackTraces = false) (D : va_G) (kc : Nat → ClassId) (L : List Nat) (f : Nat → va_E) (sz : Nat) (x ms cp : Nat) (gm : Nat → Option Nat) (hc : Nat → Int32) (tg : Nat → Nat × Nat) (nm : Nat) (mo : Nat → Int32) (om : Nat → Nat) (al : Nat) (bs : Nat → Nat → Nat) (hg : rootG kc L f tg x ms cp gm hc nm mo om al bs) (hs : stOK nm mo om al bs) (mm op ad of : Int32) : vx_Met l y_P_load w_P_load ({ frames := 8, cells := 3, slots := 18, locals := 130 }) (PP D kc L f sz [.ref x, .int mm, .int op, .int ad, .int of]) (Ql D L f sz (fun r u => ∃ k, k < nm ∧ mm = nI k ∧ ∃ kd, kd < 14 ∧ op = nI (40 + kd) ∧ uI ad + uI of + szL kd ≤ 65536 * cnt om al k ∧ r = loadV kd (lN (leN (bs k) (uI ad + uI of) (szL kd))) ∧ u = (L, f))) (XX D L f sz (fun E u => ((E = eIAE ∧ ¬ ((∃ k, k < nm ∧ mm = nI k) ∧ ∃ kd, kd < 14 ∧ op = nI (40 + kd))) ∨ (E = eIOB ∧ ∃ k, k < nm ∧ mm = nI k ∧ ∃ kd, kd < 14 ∧ op = nI (40 + kd) ∧ ¬ (uI ad + uI of + szL kd ≤ 65536 * cnt om al k))) ∧ u = (L, f))) 3 18 (pA L f sz) := by
  refine kx_metX (by decide) (Nat.le_of_ble_eq_true rfl) ?_
  intro p e s m below meth c hC hex hw hsz ls hl
  subst hsz
  have hl : lv_has ls 11 [(0, .ref x), (1, .int mm), (2, .int op), (3, .int ad), (4, .int of)] := hl
  obtain ⟨⟨⟨hx, hb, hml, hown, hts⟩, hret9, hlocks⟩, hK, hE, hA⟩ := id hC
  obtain ⟨⟨⟨hxL, htx, hfx⟩, ⟨hmsL, htms, hfms⟩, ⟨hcpL, htcp, hfcp⟩⟩, hgn, hgk9⟩ := id hg
  obtain ⟨hs1, hs2, hs3, hs4, hs5, hs6⟩ := id hs
  obtain ⟨-, -, -, -, -, -, -, ⟨tb, hZb, hTb⟩, ⟨ts, hZs, hTs⟩, ⟨tt, hZt, hTt⟩, ⟨t4, hZ4, hT4⟩⟩ := id hE
  refine lv_aload_n hx hb d_P_load_0 rfl (lv_at hl 0 rfl) ?_
  refine lv_iload_n hx hb d_P_load_1 rfl (lv_at hl 1 rfl) ?_
  refine callXVq (As := [.int mm]) (n9 := 1) hC hw (c_memoryOf l hst D kc _ _ _ x ms cp (nI nm) (nI al) gm hxL hfx hmsL hfms mm) k_co_P_memoryOf k_ml_P_49 k_im_P_memoryOf k_se_P_memoryOf k_in_P rfl rfl (by decide +kernel) rfl ⟨Nat.le_of_ble_eq_true rfl, Nat.le_of_ble_eq_true rfl⟩ hxL hfx rfl hl.1 rfl (Nat.le_of_ble_eq_true rfl) d_P_load_2 ⟨Nat.le_of_ble_eq_true rfl, Nat.le_of_ble_eq_true rfl⟩ (fun E ce q9 u H locs ho hw h1 h2 h3 => ?_) (fun o u H locs hp hw => ?_)
  · obtain ⟨rfl, ho, rfl⟩ := ho
    have hno := root_not hg hs1 ho
    exact pg_out hex hlocks hw h1 h2 h3 (⟨Or.inl ⟨rfl, fun h => hno h.1⟩, rfl⟩) (by omega) (by omega)
  · obtain ⟨k, hk24, rfl, rfl, hne, rfl⟩ := hp
    have hkn : k < nm := root_iff hg hk24 hne
    obtain ⟨am, ra, N, g, hgk, hm, hNof⟩ := hgk9 k hkn
    obtain ⟨⟨ham, hta, hem⟩, ⟨hra, htr, her⟩, hN, hbs, hrow⟩ := id hm
    obtain ⟨hpN, hp16⟩ := Nof_le hs hkn hNof
    refine tp_v (v := .ref am) (by rw [hgk]; rfl) ?_
    refine lv_astore (lv' := [(5, .ref am), (0, .ref x), (1, .int (nI k)), (2, .int op), (3, .int ad), (4, .int of)]) hx hb d_P_load_5 hl (by decide) rfl (fun ls hl => ?_)
    refine lv_iload_n hx hb d_P_load_7 rfl (lv_at hl 3 rfl) ?_
    refine lv_bipush (v := 40) hx hb d_P_load_8 (by decide) ?_
    refine va_gets hx hb hZb hw.2.2 hown (hts _ (gg_mem k_fl_P_69)) (fun _ h => h) d_P_load_10 ?_
    refine va_tlen hx hb hTb hw.2.2 (v := nI 14) rfl d_P_load_13 ?_
    refine callXSi (As := [.int op, .int 40, .int (nI 14)]) (n9 := 3) hC hw (c_kindOf l hst D kc _ _ _ op 40 (nI 14)) k_co_P_kindOf k_ml_P_73 k_sm_P_kindOf k_in_P rfl rfl (by decide +kernel) rfl ⟨Nat.le_of_ble_eq_true rfl, Nat.le_of_ble_eq_true rfl⟩ hl.1 rfl (Nat.le_of_ble_eq_true rfl) d_P_load_14 ⟨Nat.le_of_ble_eq_true rfl, Nat.le_of_ble_eq_true rfl⟩ (fun E ce q9 u H locs ho hw h1 h2 h3 => ?_) (fun r9 u H locs hp hw => ?_)
    · obtain ⟨rfl, ho, rfl⟩ := ho
      exact pg_out hex hlocks hw h1 h2 h3 (⟨Or.inl ⟨rfl, fun h => kd_no 40 14 (by decide) ho h.2⟩, rfl⟩) (by omega) (by omega)
    · obtain ⟨rfl, ⟨ho1, ho2⟩, rfl⟩ := hp
      obtain ⟨kd, hkd, hop, hopk⟩ := kd_of 40 14 (by decide) ho1 ho2
      obtain ⟨hz1, hz2, hz3⟩ := szL_ok kd hkd
      subst hop
      refine tp_i (v := nI kd) (hopk) ?_
      refine lv_istore (lv' := [(6, .int (nI kd)), (5, .ref am), (0, .ref x), (1, .int (nI k)), (2, .int (nI (40 + kd))), (3, .int ad), (4, .int of)]) hx hb d_P_load_17 hl (by decide) rfl (fun ls hl => ?_)
      refine va_gets hx hb hZb hw.2.2 hown (hts _ (gg_mem k_fl_P_69)) (fun _ h => h) d_P_load_19 ?_
      refine lv_iload hx hb d_P_load_22 (lv_at hl 0 rfl) ?_
      refine va_ti hx hb hTb hw.2.2 (v := .int (tLB kd)) (vp_in_nI (hkd) (by decide)) (by rw [nI_clamp (by omega)]) d_P_load_24 ?_
      refine tp_i (v := nI (szL kd)) (hz1) ?_
      refine lv_istore (lv' := [(7, .int (nI (szL kd))), (6, .int (nI kd)), (5, .ref am), (0, .ref x), (1, .int (nI k)), (2, .int (nI (40 + kd))), (3, .int ad), (4, .int of)]) hx hb d_P_load_25 hl (by decide) rfl (fun ls hl => ?_)
      refine lv_aload hx hb d_P_load_27 (lv_at hl 2 rfl) ?_
      refine lv_iload_n hx hb d_P_load_29 rfl (lv_at hl 6 rfl) ?_
      refine lv_iload hx hb d_P_load_30 (lv_at hl 7 rfl) ?_
      refine lv_iload hx hb d_P_load_32 (lv_at hl 0 rfl) ?_
      refine callXSi (As := [.ref am, .int ad, .int of, .int (nI (szL kd))]) (n9 := 4) hC hw (c_placeOf l hst D kc _ _ _ am ham (mo k) (cnt om al k) ra (by omega) hem ad of (szL kd) hz3) k_co_P_placeOf k_ml_P_77 k_sm_P_placeOf k_in_P rfl rfl (by decide +kernel) rfl ⟨Nat.le_of_ble_eq_true rfl, Nat.le_of_ble_eq_true rfl⟩ hl.1 rfl (Nat.le_of_ble_eq_true rfl) d_P_load_34 ⟨Nat.le_of_ble_eq_true rfl, Nat.le_of_ble_eq_true rfl⟩ (fun E ce q9 u H locs ho hw h1 h2 h3 => ?_) (fun r9 u H locs hp hw => ?_)
      · obtain ⟨rfl, ho, rfl⟩ := ho
        exact pg_out hex hlocks hw h1 h2 h3 (⟨Or.inr ⟨rfl, k, hkn, rfl, kd, hkd, rfl, by rw [Nat.mul_comm]; exact ho⟩, rfl⟩) (by omega) (by omega)
      · obtain ⟨rfl, hpl, rfl⟩ := hp
        refine lv_istore (lv' := [(8, .int (nI (uI ad + uI of))), (7, .int (nI (szL kd))), (6, .int (nI kd)), (5, .ref am), (0, .ref x), (1, .int (nI k)), (2, .int (nI (40 + kd))), (3, .int ad), (4, .int of)]) hx hb d_P_load_37 hl (by decide) rfl (fun ls hl => ?_)
        refine lv_aload hx hb d_P_load_39 (lv_at hl 3 rfl) ?_
        refine lv_iload hx hb d_P_load_41 (lv_at hl 0 rfl) ?_
        refine lv_iload hx hb d_P_load_43 (lv_at hl 1 rfl) ?_
        refine callVl (As := [.int (nI (uI ad + uI of)), .int (nI (szL kd))]) (n9 := 2) hC hw (c_M_numberAt l D kc _ _ _ tg k am ra (mo k) (cnt om al k) N g (bs k) hm (uI ad + uI of) (szL kd) (by omega) hz3) k_co_M_numberAt k_ml_P_81 k_im_M_numberAt k_se_M_numberAt k_in_M rfl rfl (by decide +kernel) rfl ⟨Nat.le_of_ble_eq_true rfl, Nat.le_of_ble_eq_true rfl⟩ ham hem rfl hl.1 rfl (Nat.le_of_ble_eq_true rfl) d_P_load_45 ⟨Nat.le_of_ble_eq_true rfl, Nat.le_of_ble_eq_true rfl⟩ (fun r9 u H locs hp hw => ?_)
        obtain ⟨rfl, rfl⟩ := hp
        refine lv_lstore (lv' := [(9, .long (lN (leN (bs k) (uI ad + uI of) (szL kd)))), (8, .int (nI (uI ad + uI of))), (7, .int (nI (szL kd))), (6, .int (nI kd)), (5, .ref am), (0, .ref x), (1, .int (nI k)), (2, .int (nI (40 + kd))), (3, .int ad), (4, .int of)]) hx hb d_P_load_48 hl (by decide) rfl (fun ls hl => ?_)
        refine va_gets hx hb hZs hw.2.2 hown (hts _ (gg_mem k_fl_P_85)) (fun _ h => h) d_P_load_50 ?_
        refine lv_iload hx hb d_P_load_53 (lv_at hl 3 rfl) ?_
        refine va_ti hx hb hTs hw.2.2 (v := .int (tLS kd)) (vp_in_nI (hkd) (by decide)) (by rw [nI_clamp (by omega)]) d_P_load_55 ?_
        refine lv_iconst (v := 1) hx hb d_P_load_56 (by decide) ?_
        refine lv_icmp_ne (tgt := 69) hx hb d_P_load_57 (by decide) (fun c1 => ?_) (fun c1 => ?_)
        · refine va_gets hx hb hZt hw.2.2 hown (hts _ (gg_mem k_fl_P_92)) (fun _ h => h) d_P_load_69 ?_
          refine lv_iload hx hb d_P_load_72 (lv_at hl 3 rfl) ?_
          refine va_ti hx hb hTt hw.2.2 (v := .int (tLT kd)) (vp_in_nI (hkd) (by decide)) (by rw [nI_clamp (by omega)]) d_P_load_74 ?_
          refine lv_iconst (v := 4) hx hb d_P_load_75 (by decide) ?_
          refine lv_icmp_ne (tgt := 88) hx hb d_P_load_76 (by decide) (fun c2 => ?_) (fun c2 => ?_)
          · refine lv_lload hx hb d_P_load_88 (lv_at hl 0 rfl) ?_
            exact vx_ret (pg_lret hC.1 hw (⟨k, hkn, rfl, kd, hkd, rfl, by rw [Nat.mul_comm]; exact hpl, by unfold loadV; rw [if_neg c2, if_neg c1], rfl⟩) d_P_load_90)
          · refine lv_lload hx hb d_P_load_79 (lv_at hl 0 rfl) ?_
            refine lv_ldc2 (v := 4294967295) hx hb hown (hts _ (gg_mem k_cn_P_95)) d_P_load_81 ?_
            refine lv_land hx hb d_P_load_84 ?_
            refine lv_goto (tgt := 90) hx hb d_P_load_85 (by decide) ?_
            exact vx_ret (pg_lret hC.1 hw (⟨k, hkn, rfl, kd, hkd, rfl, by rw [Nat.mul_comm]; exact hpl, by unfold loadV; rw [if_pos c2, if_neg c1], rfl⟩) d_P_load_90)
        · refine lv_lload hx hb d_P_load_60 (lv_at hl 0 rfl) ?_
          refine lv_iload hx hb d_P_load_62 (lv_at hl 2 rfl) ?_
          refine callSl (As := [.long (lN (leN (bs k) (uI ad + uI of) (szL kd))), .int (nI (szL kd))]) (n9 := 2) hC hw (c_withSign l D kc _ _ _ (lN (leN (bs k) (uI ad + uI of) (szL kd))) (nI (szL kd))) k_co_P_withSign k_ml_P_88 k_sm_P_withSign k_in_P rfl rfl (by decide +kernel) rfl ⟨Nat.le_of_ble_eq_true rfl, Nat.le_of_ble_eq_true rfl⟩ hl.1 rfl (Nat.le_of_ble_eq_true rfl) d_P_load_64 ⟨Nat.le_of_ble_eq_true rfl, Nat.le_of_ble_eq_true rfl⟩ (fun r9 u H locs hp hw => ?_)
          obtain ⟨rfl, rfl⟩ := hp
          refine lv_lstore (lv' := [(9, .long ((lN (leN (bs k) (uI ad + uI of) (szL kd)) <<< ((8 * (8 - nI (szL kd))).toInt64 &&& 63)) >>> ((8 * (8 - nI (szL kd))).toInt64 &&& 63))), (8, .int (nI (uI ad + uI of))), (7, .int (nI (szL kd))), (6, .int (nI kd)), (5, .ref am), (0, .ref x), (1, .int (nI k)), (2, .int (nI (40 + kd))), (3, .int ad), (4, .int of)]) hx hb d_P_load_67 hl (by decide) rfl (fun ls hl => ?_)
          refine va_gets hx hb hZt hw.2.2 hown (hts _ (gg_mem k_fl_P_92)) (fun _ h => h) d_P_load_69 ?_
          refine lv_iload hx hb d_P_load_72 (lv_at hl 3 rfl) ?_
          refine va_ti hx hb hTt hw.2.2 (v := .int (tLT kd)) (vp_in_nI (hkd) (by decide)) (by rw [nI_clamp (by omega)]) d_P_load_74 ?_
          refine lv_iconst (v := 4) hx hb d_P_load_75 (by decide) ?_
          refine lv_icmp_ne (tgt := 88) hx hb d_P_load_76 (by decide) (fun c2 => ?_) (fun c2 => ?_)
          · refine lv_lload hx hb d_P_load_88 (lv_at hl 0 rfl) ?_
            exact vx_ret (pg_lret hC.1 hw (⟨k, hkn, rfl, kd, hkd, rfl, by rw [Nat.mul_comm]; exact hpl, by unfold loadV; rw [if_neg c2, if_pos c1]; rfl, rfl⟩) d_P_load_90)
          · refine lv_lload hx hb d_P_load_79 (lv_at hl 0 rfl) ?_
            refine lv_ldc2 (v := 4294967295) hx hb hown (hts _ (gg_mem k_cn_P_95)) d_P_load_81 ?_
            refine lv_land hx hb d_P_load_84 ?_
            refine lv_goto (tgt := 90) hx hb d_P_load_85 (by decide) ?_
            exact vx_ret (pg_lret hC.1 hw (⟨k, hkn, rfl, kd, hkd, rfl, by rw [Nat.mul_comm]; exact hpl, by unfold loadV; rw [if_pos c2, if_pos c1]; rfl, rfl⟩) d_P_load_90)
set_option maxHeartbeats 4000000 in
set_option maxRecDepth 100000 in
theorem c_P_store (l : Launch) (hst : l.stackTraces = false) (D : va_G) (kc : Nat → ClassId) (L : List Nat) (f : Nat → va_E) (sz : Nat) (x ms cp : Nat) (gm : Nat → Option Nat) (hc : Nat → Int32) (tg : Nat → Nat × Nat) (nm : Nat) (mo : Nat → Int32) (om : Nat → Nat) (al : Nat) (bs : Nat → Nat → Nat) (hg : rootG kc L f tg x ms cp gm hc nm mo om al bs) (hs : stOK nm mo om al bs) (mm op ad of : Int32) (vl : Int64) : vx_Met l y_P_store w_P_store ({ frames := 8, cells := 7, slots := 2068, locals := 130 }) (PP D kc L f sz [.ref x, .int mm, .int op, .int ad, .int of, .long vl]) (Qv D L f sz (fun u => ∃ k, k < nm ∧ mm = nI k ∧ ∃ kd, kd < 9 ∧ op = nI (54 + kd) ∧ uI ad + uI of + szS kd ≤ 65536 * cnt om al k ∧ ∃ tg', rootP kc u.1 u.2 tg' x nm mo om al (va_up bs k (putN (bs k) (uI ad + uI of) (uL vl) (szS kd))) ∧ Ext SC L f tg u tg')) (XX D L f sz (fun E u => ((E = eIAE ∧ ¬ ((∃ k, k < nm ∧ mm = nI k) ∧ ∃ kd, kd < 9 ∧ op = nI (54 + kd))) ∨ (E = eIOB ∧ ∃ k, k < nm ∧ mm = nI k ∧ ∃ kd, kd < 9 ∧ op = nI (54 + kd) ∧ ¬ (uI ad + uI of + szS kd ≤ 65536 * cnt om al k))) ∧ u = (L, f))) 7 2068 (pA L f sz) := by
  refine kx_metX (by decide) (Nat.le_of_ble_eq_true rfl) ?_
  intro p e s m below meth c hC hex hw hsz ls hl
  subst hsz
  have hl : lv_has ls 10 [(0, .ref x), (1, .int mm), (2, .int op), (3, .int ad), (4, .int of), (5, .long vl)] := hl
  obtain ⟨⟨⟨hx, hb, hml, hown, hts⟩, hret9, hlocks⟩, hK, hE, hA⟩ := id hC
  obtain ⟨⟨⟨hxL, htx, hfx⟩, ⟨hmsL, htms, hfms⟩, ⟨hcpL, htcp, hfcp⟩⟩, hgn, hgk9⟩ := id hg
  obtain ⟨hs1, hs2, hs3, hs4, hs5, hs6⟩ := id hs
  obtain ⟨-, -, -, -, -, -, -, ⟨tb, hZb, hTb⟩, ⟨ts, hZs, hTs⟩, ⟨tt, hZt, hTt⟩, ⟨t4, hZ4, hT4⟩⟩ := id hE
  refine lv_aload_n hx hb d_P_store_0 rfl (lv_at hl 0 rfl) ?_
  refine lv_iload_n hx hb d_P_store_1 rfl (lv_at hl 1 rfl) ?_
  refine callXVq (As := [.int mm]) (n9 := 1) hC hw (c_memoryOf l hst D kc _ _ _ x ms cp (nI nm) (nI al) gm hxL hfx hmsL hfms mm) k_co_P_memoryOf k_ml_P_49 k_im_P_memoryOf k_se_P_memoryOf k_in_P rfl rfl (by decide +kernel) rfl ⟨Nat.le_of_ble_eq_true rfl, Nat.le_of_ble_eq_true rfl⟩ hxL hfx rfl hl.1 rfl (Nat.le_of_ble_eq_true rfl) d_P_store_2 ⟨Nat.le_of_ble_eq_true rfl, Nat.le_of_ble_eq_true rfl⟩ (fun E ce q9 u H locs ho hw h1 h2 h3 => ?_) (fun o u H locs hp hw => ?_)
  · obtain ⟨rfl, ho, rfl⟩ := ho
    have hno := root_not hg hs1 ho
    exact pg_out hex hlocks hw h1 h2 h3 (⟨Or.inl ⟨rfl, fun h => hno h.1⟩, rfl⟩) (by omega) (by omega)
  · obtain ⟨k, hk24, rfl, rfl, hne, rfl⟩ := hp
    have hkn : k < nm := root_iff hg hk24 hne
    obtain ⟨am, ra, N, g, hgk, hm, hNof⟩ := hgk9 k hkn
    obtain ⟨⟨ham, hta, hem⟩, ⟨hra, htr, her⟩, hN, hbs, hrow⟩ := id hm
    obtain ⟨hpN, hp16⟩ := Nof_le hs hkn hNof
    refine tp_v (v := .ref am) (by rw [hgk]; rfl) ?_
    refine lv_astore (lv' := [(7, .ref am), (0, .ref x), (1, .int (nI k)), (2, .int op), (3, .int ad), (4, .int of), (5, .long vl)]) hx hb d_P_store_5 hl (by decide) rfl (fun ls hl => ?_)
    refine va_gets hx hb hZ4 hw.2.2 hown (hts _ (gg_mem k_fl_P_97)) (fun _ h => h) d_P_store_7 ?_
    refine lv_iload_n hx hb d_P_store_10 rfl (lv_at hl 3 rfl) ?_
    refine lv_bipush (v := 54) hx hb d_P_store_11 (by decide) ?_
    refine va_gets hx hb hZ4 hw.2.2 hown (hts _ (gg_mem k_fl_P_97)) (fun _ h => h) d_P_store_13 ?_
    refine va_tlen hx hb hT4 hw.2.2 (v := nI 9) rfl d_P_store_16 ?_
    refine callXSi (As := [.int op, .int 54, .int (nI 9)]) (n9 := 3) hC hw (c_kindOf l hst D kc _ _ _ op 54 (nI 9)) k_co_P_kindOf k_ml_P_73 k_sm_P_kindOf k_in_P rfl rfl (by decide +kernel) rfl ⟨Nat.le_of_ble_eq_true rfl, Nat.le_of_ble_eq_true rfl⟩ hl.1 rfl (Nat.le_of_ble_eq_true rfl) d_P_store_17 ⟨Nat.le_of_ble_eq_true rfl, Nat.le_of_ble_eq_true rfl⟩ (fun E ce q9 u H locs ho hw h1 h2 h3 => ?_) (fun r9 u H locs hp hw => ?_)
    · obtain ⟨rfl, ho, rfl⟩ := ho
      exact pg_out hex hlocks hw h1 h2 h3 (⟨Or.inl ⟨rfl, fun h => kd_no 54 9 (by decide) ho h.2⟩, rfl⟩) (by omega) (by omega)
    · obtain ⟨rfl, ⟨ho1, ho2⟩, rfl⟩ := hp
      obtain ⟨kd, hkd, hop, hopk⟩ := kd_of 54 9 (by decide) ho1 ho2
      obtain ⟨hz1, hz2, hz3⟩ := szS_ok kd hkd
      subst hop
      refine tp_i (v := nI kd) (hopk) ?_
      refine va_ti hx hb hT4 hw.2.2 (v := .int (tSB kd)) (vp_in_nI (hkd) (by decide)) (by rw [nI_clamp (by omega)]) d_P_store_20 ?_
      refine tp_i (v := nI (szS kd)) (hz1) ?_
      refine lv_istore (lv' := [(8, .int (nI (szS kd))), (7, .ref am), (0, .ref x), (1, .int (nI k)), (2, .int (nI (54 + kd))), (3, .int ad), (4, .int of), (5, .long vl)]) hx hb d_P_store_21 hl (by decide) rfl (fun ls hl => ?_)
      refine lv_aload hx hb d_P_store_23 (lv_at hl 1 rfl) ?_
      refine lv_iload_n hx hb d_P_store_25 rfl (lv_at hl 5 rfl) ?_
      refine lv_iload hx hb d_P_store_26 (lv_at hl 6 rfl) ?_
      refine lv_iload hx hb d_P_store_28 (lv_at hl 0 rfl) ?_
      refine callXSi (As := [.ref am, .int ad, .int of, .int (nI (szS kd))]) (n9 := 4) hC hw (c_placeOf l hst D kc _ _ _ am ham (mo k) (cnt om al k) ra (by omega) hem ad of (szS kd) hz3) k_co_P_placeOf k_ml_P_77 k_sm_P_placeOf k_in_P rfl rfl (by decide +kernel) rfl ⟨Nat.le_of_ble_eq_true rfl, Nat.le_of_ble_eq_true rfl⟩ hl.1 rfl (Nat.le_of_ble_eq_true rfl) d_P_store_30 ⟨Nat.le_of_ble_eq_true rfl, Nat.le_of_ble_eq_true rfl⟩ (fun E ce q9 u H locs ho hw h1 h2 h3 => ?_) (fun r9 u H locs hp hw => ?_)
      · obtain ⟨rfl, ho, rfl⟩ := ho
        exact pg_out hex hlocks hw h1 h2 h3 (⟨Or.inr ⟨rfl, k, hkn, rfl, kd, hkd, rfl, by rw [Nat.mul_comm]; exact ho⟩, rfl⟩) (by omega) (by omega)
      · obtain ⟨rfl, hpl, rfl⟩ := hp
        refine lv_istore (lv' := [(9, .int (nI (uI ad + uI of))), (8, .int (nI (szS kd))), (7, .ref am), (0, .ref x), (1, .int (nI k)), (2, .int (nI (54 + kd))), (3, .int ad), (4, .int of), (5, .long vl)]) hx hb d_P_store_33 hl (by decide) rfl (fun ls hl => ?_)
        refine lv_aload hx hb d_P_store_35 (lv_at hl 2 rfl) ?_
        refine lv_iload hx hb d_P_store_37 (lv_at hl 0 rfl) ?_
        refine lv_iload hx hb d_P_store_39 (lv_at hl 1 rfl) ?_
        refine lv_lload hx hb d_P_store_41 (lv_at hl 8 rfl) ?_
        refine callVv (As := [.int (nI (uI ad + uI of)), .int (nI (szS kd)), .long vl]) (n9 := 3) hC hw (c_M_putNumber l D kc _ _ _ tg k am ra (mo k) (cnt om al k) N g (bs k) hm (uI ad + uI of) (szS kd) vl (by omega) hz3) k_co_M_putNumber k_ml_P_100 k_im_M_putNumber k_se_M_putNumber k_in_M rfl rfl (by decide +kernel) rfl ⟨Nat.le_of_ble_eq_true rfl, Nat.le_of_ble_eq_true rfl⟩ ham hem rfl hl.1 rfl (Nat.le_of_ble_eq_true rfl) d_P_store_43 ⟨Nat.le_of_ble_eq_true rfl, Nat.le_of_ble_eq_true rfl⟩ (fun u H locs hp hw => ?_)
        obtain ⟨tg2, g2, hm2, he2⟩ := hp
        obtain ⟨L2, f2⟩ := u
        dsimp only at hw hm2 he2
        have hr2 := root_mem hg hs1 hkn hgk hNof he2 hm2
        exact vx_ret (pg_vret hC.1 hw (⟨k, hkn, rfl, kd, hkd, rfl, by rw [Nat.mul_comm]; exact hpl, tg2, ⟨ms, cp, gm, hc, hr2⟩, he2.mono (fun i hi => Or.inl (by omega))⟩) d_P_store_46)
