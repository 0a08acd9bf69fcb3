/-! PagedBytes: copy, grow, make, the constructor -/
theorem nI_uI (x : Int32) : nI (uI x) = x := by
  apply Int32.toBitVec_inj.1
  show BitVec.ofNat 32 x.toBitVec.toNat = x.toBitVec
  rw [BitVec.ofNat_toNat]
  exact BitVec.setWidth_eq x.toBitVec
theorem uI_nI {n : Nat} (h : n < 2 ^ 32) : uI (nI n) = n := pk_tn h
theorem i64_pos {x : Int32} (h : ¬ x.toInt64 < 0) : ∃ P, P < 2 ^ 31 ∧ x = nI P := by
  refine nI_of (fun q => h ?_)
  have h2 : x.toInt < (0 : Int32).toInt := Int32.lt_iff_toInt_lt.mp q
  rw [Int64.lt_iff_toInt_lt, Int32.toInt_toInt64]
  exact h2
def limP (mo : Int32) (lim : Nat) : Prop := (mo = -1 ∧ lim = 65536) ∨ (lim ≤ 65536 ∧ mo = nI lim)
theorem limP_of {n : Nat} {mo : Nat → Int32} {om : Nat → Nat} {al : Nat} {bs : Nat → Nat → Nat} (hs : stOK n mo om al bs) {k : Nat} (hk : k < n) : ∃ lim, limP (mo k) lim ∧ lim ≤ 65536 ∧ (if mo k = -1 then 65536 else mo k) = nI lim := by
  rcases hs.2.2.2.1 k hk with e | ⟨q, hq, e, -⟩
  · exact ⟨65536, Or.inl ⟨e, rfl⟩, Nat.le_refl _, by rw [if_pos e]; rfl⟩
  · exact ⟨q, Or.inr ⟨hq, e⟩, hq, by rw [e, if_neg (nI_nm1 hq)]⟩
theorem limP_un {mo : Int32} {a b : Nat} (ha : limP mo a) (hb : limP mo b) : a = b := by
  rcases ha with ⟨e, h⟩ | ⟨h, e⟩ <;> rcases hb with ⟨e2, h2⟩ | ⟨h2, e2⟩
  · omega
  · exact absurd (e2.symm.trans e) (nI_nm1 h2)
  · exact absurd (e.symm.trans e2) (nI_nm1 h)
  · exact nI_inj h h2 (e.symm.trans e2)
set_option maxHeartbeats 4000000 in
set_option maxRecDepth 100000 in
theorem c_P_copy (l : Launch) (hst : l.stackTraces = false) (D : va_G) (kc : Nat → ClassId) (L : List Nat) (f : Nat → va_E) (sz : Nat) (x ms cp : Nat) (gm : Nat → Option Nat) (hc : Nat → Int32) (tg : Nat → Nat × Nat) (nm : Nat) (mo : Nat → Int32) (om : Nat → Nat) (al : Nat) (bs : Nat → Nat → Nat) (hg : rootG kc L f tg x ms cp gm hc nm mo om al bs) (hs : stOK nm mo om al bs) (mm fr m2 to9 cn : Int32) : vx_Met l y_P_copy w_P_copy ({ frames := 7, cells := 15, slots := 5155, locals := 105 }) (PP D kc L f sz [.ref x, .int mm, .int fr, .int m2, .int to9, .int cn]) (Qv D L f sz (fun u => ∃ k1, k1 < nm ∧ mm = nI k1 ∧ ∃ k2, k2 < nm ∧ m2 = nI k2 ∧ ∃ nb, nb ≤ 4096 ∧ cn = nI nb ∧ ((nb = 0 ∧ u = (L, f)) ∨ (0 < nb ∧ ∃ P, fr = nI P ∧ P + nb ≤ 65536 * cnt om al k1 ∧ ∃ P2, to9 = nI P2 ∧ P2 + nb ≤ 65536 * cnt om al k2 ∧ ∃ tg', rootP kc u.1 u.2 tg' x nm mo om al (va_up bs k2 (cpN (bs k2) P2 nb (fun j => bs k1 (P + j)))) ∧ Ext SC L f tg u tg')))) (XX D L f sz (fun E u => ((E = eIAE ∧ ¬ ((∃ k, k < nm ∧ mm = nI k) ∧ (∃ k, k < nm ∧ m2 = nI k) ∧ ¬ cn < 0 ∧ cn ≤ 4096)) ∨ (E = eIOB ∧ ∃ k1, k1 < nm ∧ mm = nI k1 ∧ ∃ k2, k2 < nm ∧ m2 = nI k2 ∧ ∃ nb, nb ≤ 4096 ∧ cn = nI nb ∧ 0 < nb ∧ ¬ ((∃ P, fr = nI P ∧ P + nb ≤ 65536 * cnt om al k1) ∧ ∃ P2, to9 = nI P2 ∧ P2 + nb ≤ 65536 * cnt om al k2))) ∧ u = (L, f))) 15 5155 (pA L f sz) := by
  refine kx_metX (by decide) (Nat.le_of_ble_eq_true rfl) ?_
  intro p e s m below meth c hC hex hw hsz ls hl
  subst hsz
  have hl : lv_has ls 8 [(0, .ref x), (1, .int mm), (2, .int fr), (3, .int m2), (4, .int to9), (5, .int cn)] := hl
  obtain ⟨⟨⟨hx, hb, hml, hown, hts⟩, hret9, hlocks⟩, hK, hE, hA⟩ := id hC
  obtain ⟨⟨⟨hxL, htx, hfx⟩, ⟨hmsL, htms, hfms⟩, ⟨hcpL, htcp, hfcp⟩⟩, hgn, hgk9⟩ := id hg
  obtain ⟨hs1, hs2, hs3, hs4, hs5, hs6⟩ := id hs
  refine lv_aload_n hx hb d_P_copy_0 rfl (lv_at hl 0 rfl) ?_
  refine lv_iload_n hx hb d_P_copy_1 rfl (lv_at hl 1 rfl) ?_
  refine callXVq (As := [.int mm]) (n9 := 1) hC hw (c_memoryOf l hst D kc _ _ _ x ms cp (nI nm) (nI al) gm hxL hfx hmsL hfms mm) k_co_P_memoryOf k_ml_P_49 k_im_P_memoryOf k_se_P_memoryOf k_in_P rfl rfl (by decide +kernel) rfl ⟨Nat.le_of_ble_eq_true rfl, Nat.le_of_ble_eq_true rfl⟩ hxL hfx rfl hl.1 rfl (Nat.le_of_ble_eq_true rfl) d_P_copy_2 ⟨Nat.le_of_ble_eq_true rfl, Nat.le_of_ble_eq_true rfl⟩ (fun E ce q9 u H locs ho hw h1 h2 h3 => ?_) (fun o u H locs hp hw => ?_)
  · obtain ⟨rfl, ho, rfl⟩ := ho
    have hno := root_not hg hs1 ho
    exact pg_out hex hlocks hw h1 h2 h3 (⟨Or.inl ⟨rfl, fun h => hno h.1⟩, rfl⟩) (by omega) (by omega)
  · obtain ⟨k1, hk241, rfl, rfl, hne1, rfl⟩ := hp
    have hkn1 : k1 < nm := root_iff hg hk241 hne1
    obtain ⟨am1, ra1, N1, g1, hgk1, hm1, hNof1⟩ := hgk9 k1 hkn1
    obtain ⟨⟨ham1, hta1, hem1⟩, ⟨hra1, htr1, her1⟩, hN1, hbs1, hrow1⟩ := id hm1
    obtain ⟨hpN1, hp161⟩ := Nof_le hs hkn1 hNof1
    refine tp_v (v := .ref am1) (by rw [hgk1]; rfl) ?_
    refine lv_astore (lv' := [(6, .ref am1), (0, .ref x), (1, .int (nI k1)), (2, .int fr), (3, .int m2), (4, .int to9), (5, .int cn)]) hx hb d_P_copy_5 hl (by decide) rfl (fun ls hl => ?_)
    refine lv_aload_n hx hb d_P_copy_7 rfl (lv_at hl 1 rfl) ?_
    refine lv_iload_n hx hb d_P_copy_8 rfl (lv_at hl 4 rfl) ?_
    refine callXVq (As := [.int m2]) (n9 := 1) hC hw (c_memoryOf l hst D kc _ _ _ x ms cp (nI nm) (nI al) gm hxL hfx hmsL hfms m2) k_co_P_memoryOf k_ml_P_49 k_im_P_memoryOf k_se_P_memoryOf k_in_P rfl rfl (by decide +kernel) rfl ⟨Nat.le_of_ble_eq_true rfl, Nat.le_of_ble_eq_true rfl⟩ hxL hfx rfl hl.1 rfl (Nat.le_of_ble_eq_true rfl) d_P_copy_9 ⟨Nat.le_of_ble_eq_true rfl, Nat.le_of_ble_eq_true rfl⟩ (fun E ce q9 u H locs ho hw h1 h2 h3 => ?_) (fun o u H locs hp hw => ?_)
    · obtain ⟨rfl, ho, rfl⟩ := ho
      have hno := root_not hg hs1 ho
      exact pg_out hex hlocks hw h1 h2 h3 (⟨Or.inl ⟨rfl, fun h => hno h.2.1⟩, rfl⟩) (by omega) (by omega)
    · obtain ⟨k2, hk242, rfl, rfl, hne2, rfl⟩ := hp
      have hkn2 : k2 < nm := root_iff hg hk242 hne2
      obtain ⟨am2, ra2, N2, g2, hgk2, hm2, hNof2⟩ := hgk9 k2 hkn2
      obtain ⟨⟨ham2, hta2, hem2⟩, ⟨hra2, htr2, her2⟩, hN2, hbs2, hrow2⟩ := id hm2
      obtain ⟨hpN2, hp162⟩ := Nof_le hs hkn2 hNof2
      refine tp_v (v := .ref am2) (by rw [hgk2]; rfl) ?_
      refine lv_astore (lv' := [(7, .ref am2), (6, .ref am1), (0, .ref x), (1, .int (nI k1)), (2, .int fr), (3, .int (nI k2)), (4, .int to9), (5, .int cn)]) hx hb d_P_copy_12 hl (by decide) rfl (fun ls hl => ?_)
      refine lv_iload hx hb d_P_copy_14 (lv_at hl 7 rfl) ?_
      refine lv_sipush (v := 4096) hx hb d_P_copy_16 (by decide) ?_
      refine callXSv (As := [.int cn, .int 4096]) (n9 := 2) hC hw (c_checkCount l hst D kc _ _ _ cn 4096) k_co_P_checkCount k_ml_P_104 k_sm_P_checkCount k_in_P rfl rfl (by decide +kernel) rfl ⟨Nat.le_of_ble_eq_true rfl, Nat.le_of_ble_eq_true rfl⟩ hl.1 rfl (Nat.le_of_ble_eq_true rfl) d_P_copy_19 ⟨Nat.le_of_ble_eq_true rfl, Nat.le_of_ble_eq_true rfl⟩ (fun E ce q9 u H locs ho hw h1 h2 h3 => ?_) (fun u H locs hp hw => ?_)
      · obtain ⟨rfl, ho, rfl⟩ := ho
        exact pg_out hex hlocks hw h1 h2 h3 (⟨Or.inl ⟨rfl, fun h => ho h.2.2⟩, rfl⟩) (by omega) (by omega)
      · obtain ⟨⟨hc1, hc2⟩, rfl⟩ := hp
        obtain ⟨nb, hnb, rfl⟩ : ∃ j, j ≤ 4096 ∧ cn = nI j := nI_of2 (M := 4096) (n := 4096) (by decide) hc1 hc2
        refine lv_iload hx hb d_P_copy_22 (lv_at hl 7 rfl) ?_
        refine lv_if_ne (tgt := 28) hx hb d_P_copy_24 (by decide) (fun c1 => ?_) (fun c1 => ?_)
        · have hnz : 0 < nb := by
            rcases Nat.eq_zero_or_pos nb with q | q
            · exact absurd (by rw [q]; rfl) c1
            · exact q
          refine lv_aload hx hb d_P_copy_28 (lv_at hl 1 rfl) ?_
          refine lv_iload_n hx hb d_P_copy_30 rfl (lv_at hl 4 rfl) ?_
          refine lv_i2l hx hb d_P_copy_31 rfl ?_
          refine lv_iload hx hb d_P_copy_32 (lv_at hl 7 rfl) ?_
          refine callXSv (As := [.ref am1, .long fr.toInt64, .int (nI nb)]) (n9 := 3) hC hw (c_checkThere l hst D kc _ _ _ am1 ham1 (mo k1) (cnt om al k1) ra1 (by omega) hem1 fr.toInt64 (nI nb)) k_co_P_checkThere k_ml_P_107 k_sm_P_checkThere k_in_P rfl rfl (by decide +kernel) rfl ⟨Nat.le_of_ble_eq_true rfl, Nat.le_of_ble_eq_true rfl⟩ hl.1 rfl (Nat.le_of_ble_eq_true rfl) d_P_copy_34 ⟨Nat.le_of_ble_eq_true rfl, Nat.le_of_ble_eq_true rfl⟩ (fun E ce q9 u H locs ho hw h1 h2 h3 => ?_) (fun u H locs hp hw => ?_)
          · obtain ⟨rfl, ho, rfl⟩ := ho
            refine pg_out hex hlocks hw h1 h2 h3 (⟨Or.inr ⟨rfl, k1, hkn1, rfl, k2, hkn2, rfl, nb, hnb, rfl, hnz, fun h => ho ?_⟩, rfl⟩) (by omega) (by omega)
            obtain ⟨⟨P, rfl, hP⟩, -⟩ := h
            rw [nI_toI64 P (by omega), nI_toI64 nb (by omega)]
            exact ⟨lN_nlt0 (by omega), by rw [lN_add, pk_lLE (by omega) (by omega)]; omega⟩
          · obtain ⟨⟨hq1, hq2⟩, rfl⟩ := hp
            obtain ⟨P, hP31, rfl⟩ := i64_pos hq1
            rw [nI_toI64 P hP31, nI_toI64 nb (by omega), lN_add, pk_lLE (by omega) (by omega)] at hq2
            refine lv_aload hx hb d_P_copy_37 (lv_at hl 0 rfl) ?_
            refine lv_iload hx hb d_P_copy_39 (lv_at hl 6 rfl) ?_
            refine lv_i2l hx hb d_P_copy_41 rfl ?_
            refine lv_iload hx hb d_P_copy_42 (lv_at hl 7 rfl) ?_
            refine callXSv (As := [.ref am2, .long to9.toInt64, .int (nI nb)]) (n9 := 3) hC hw (c_checkThere l hst D kc _ _ _ am2 ham2 (mo k2) (cnt om al k2) ra2 (by omega) hem2 to9.toInt64 (nI nb)) k_co_P_checkThere k_ml_P_107 k_sm_P_checkThere k_in_P rfl rfl (by decide +kernel) rfl ⟨Nat.le_of_ble_eq_true rfl, Nat.le_of_ble_eq_true rfl⟩ hl.1 rfl (Nat.le_of_ble_eq_true rfl) d_P_copy_44 ⟨Nat.le_of_ble_eq_true rfl, Nat.le_of_ble_eq_true rfl⟩ (fun E ce q9 u H locs ho hw h1 h2 h3 => ?_) (fun u H locs hp hw => ?_)
            · obtain ⟨rfl, ho, rfl⟩ := ho
              refine pg_out hex hlocks hw h1 h2 h3 (⟨Or.inr ⟨rfl, k1, hkn1, rfl, k2, hkn2, rfl, nb, hnb, rfl, hnz, fun h => ho ?_⟩, rfl⟩) (by omega) (by omega)
              obtain ⟨-, P2, rfl, hP2⟩ := h
              rw [nI_toI64 P2 (by omega), nI_toI64 nb (by omega)]
              exact ⟨lN_nlt0 (by omega), by rw [lN_add, pk_lLE (by omega) (by omega)]; omega⟩
            · obtain ⟨⟨hq3, hq4⟩, rfl⟩ := hp
              obtain ⟨P2, hP231, rfl⟩ := i64_pos hq3
              rw [nI_toI64 P2 hP231, nI_toI64 nb (by omega), lN_add, pk_lLE (by omega) (by omega)] at hq4
              refine lv_aload hx hb d_P_copy_47 (lv_at hl 1 rfl) ?_
              refine lv_aload_n hx hb d_P_copy_49 rfl (lv_at hl 2 rfl) ?_
              refine get_P hC hw hxL hfx 1 (by decide) k_fl_P_15 rfl d_P_copy_50 ?_
              refine lv_iload_n hx hb d_P_copy_53 rfl (lv_at hl 4 rfl) ?_
              refine lv_iload hx hb d_P_copy_54 (lv_at hl 7 rfl) ?_
              refine callVv (As := [.ref cp, .int (nI P), .int (nI nb)]) (n9 := 3) hC hw (c_M_readInto l D kc _ _ _ tg k1 am1 ra1 (mo k1) (cnt om al k1) N1 g1 (bs k1) hm1 cp P nb hc hcpL hfcp (by rw [htcp]; show 100 ≠ k1; omega) (by omega) ⟨hnz, hnb⟩) k_co_M_readInto k_ml_P_111 k_im_M_readInto k_se_M_readInto k_in_M rfl rfl (by decide +kernel) rfl ⟨Nat.le_of_ble_eq_true rfl, Nat.le_of_ble_eq_true rfl⟩ ham1 hem1 rfl hl.1 rfl (Nat.le_of_ble_eq_true rfl) d_P_copy_56 ⟨Nat.le_of_ble_eq_true rfl, Nat.le_of_ble_eq_true rfl⟩ (fun u H locs hp hw => ?_)
              obtain ⟨h9, rfl, hd9⟩ := hp
              dsimp only at hw
              obtain ⟨f1, hf1⟩ : ∃ F, F = va_up f cp (.inl (kc 0, 4096, .inl h9)) := ⟨_, rfl⟩
              rw [← hf1] at hw
              have hg1 := root_cp (h' := h9) hg hs1
              rw [← hf1] at hg1
              obtain ⟨⟨⟨hxL1, htx1, hfx1⟩, -, ⟨hcpL1, htcp1, hfcp1⟩⟩, -, -⟩ := id hg1
              have he1 : Ext (fun i => i = 100) L f tg (L, f1) tg := by rw [hf1]; exact Ext_up (by rw [htcp])
              have hm2b : memG kc L f1 tg k2 am2 ra2 (mo k2) (cnt om al k2) N2 g2 (bs k2) := memG_ext hm2 he1 (by omega)
              obtain ⟨⟨ham3, hta3, hem3⟩, -⟩ := id hm2b
              refine lv_aload hx hb d_P_copy_59 (lv_at hl 0 rfl) ?_
              refine lv_aload_n hx hb d_P_copy_61 rfl (lv_at hl 2 rfl) ?_
              refine get_P hC hw hxL1 hfx1 1 (by decide) k_fl_P_15 rfl d_P_copy_62 ?_
              refine lv_iload hx hb d_P_copy_65 (lv_at hl 6 rfl) ?_
              refine lv_iload hx hb d_P_copy_67 (lv_at hl 7 rfl) ?_
              refine callVv (As := [.ref cp, .int (nI P2), .int (nI nb)]) (n9 := 3) hC hw (c_M_writeFrom l D kc _ _ _ tg k2 am2 ra2 (mo k2) (cnt om al k2) N2 g2 (bs k2) hm2b cp P2 nb h9 (fun j => bs k1 (P + j)) hcpL1 hfcp1 (by rw [htcp]; show 100 ≠ k2; omega) hd9 (fun j _ => hs6 k1 _) (by omega) ⟨hnz, hnb⟩) k_co_M_writeFrom k_ml_P_115 k_im_M_writeFrom k_se_M_writeFrom k_in_M rfl rfl (by decide +kernel) rfl ⟨Nat.le_of_ble_eq_true rfl, Nat.le_of_ble_eq_true rfl⟩ ham3 hem3 rfl hl.1 rfl (Nat.le_of_ble_eq_true rfl) d_P_copy_69 ⟨Nat.le_of_ble_eq_true rfl, Nat.le_of_ble_eq_true rfl⟩ (fun u H locs hp hw => ?_)
              obtain ⟨tg2, g2b, hm2c, he2⟩ := hp
              obtain ⟨L2, f2⟩ := u
              dsimp only at hw hm2c he2
              have hr2 := root_mem hg1 hs1 hkn2 hgk2 hNof2 he2 hm2c
              have heS : Ext SC L f tg (L2, f2) tg2 := (he1.mono (fun i hi => Or.inr hi)).tr (he2.mono (fun i hi => Or.inl (by omega)))
              exact vx_ret (pg_vret hC.1 hw (⟨k1, hkn1, rfl, k2, hkn2, rfl, nb, hnb, rfl, Or.inr ⟨hnz, P, rfl, by omega, P2, rfl, by omega, tg2, ⟨ms, cp, gm, h9, hr2⟩, heS⟩⟩) d_P_copy_72)
        · have hz : nb = 0 := nI_inj (by omega) (by decide) c1
          subst hz
          refine W.widen (k := 15) (n := 5155) (by omega) (by omega) ?_
          exact vx_ret (pg_vret hC.1 hw (⟨k1, hkn1, rfl, k2, hkn2, rfl, 0, by decide, rfl, Or.inl ⟨rfl, rfl⟩⟩) d_P_copy_27)
set_option maxHeartbeats 4000000 in
set_option maxRecDepth 100000 in
theorem c_P_grow (l : Launch) (hst : l.stackTraces = false) (D : va_G) (kc : Nat → ClassId) (L : List Nat) (f : Nat → va_E) (sz : Nat) (x ms cp : Nat) (gm : Nat → Option Nat) (hc : Nat → Int32) (tg : Nat → Nat × Nat) (nm : Nat) (mo : Nat → Int32) (om : Nat → Nat) (al : Nat) (bs : Nat → Nat → Nat) (hg : rootG kc L f tg x ms cp gm hc nm mo om al bs) (hs : stOK nm mo om al bs) (mm gn : Int32) : vx_Met l y_P_grow w_P_grow ({ frames := 7, cells := 1, slots := 6, locals := 103 }) (PP D kc L f sz [.ref x, .int mm, .int gn]) (Qi D L f sz (fun r u => ∃ k, k < nm ∧ mm = nI k ∧ ∃ lim, limP (mo k) lim ∧ ((¬ (cnt om al k + uI gn ≤ lim ∧ al + uI gn ≤ 16) ∧ r = -1 ∧ u = (L, f)) ∨ (cnt om al k + uI gn ≤ lim ∧ al + uI gn ≤ 16 ∧ r = nI (cnt om al k) ∧ ∃ tg', rootP kc u.1 u.2 tg' x nm mo (appN om al k) (al + uI gn) bs ∧ Ext SC L f tg u tg')))) (XX D L f sz (fun E u => E = eIAE ∧ ¬ (∃ k, k < nm ∧ mm = nI k) ∧ u = (L, f))) 1 6 (pA L f sz) := by
  refine kx_metX (by decide) (Nat.le_of_ble_eq_true rfl) ?_
  intro p e s m below meth c hC hex hw hsz ls hl
  subst hsz
  have hl : lv_has ls 7 [(0, .ref x), (1, .int mm), (2, .int gn)] := hl
  obtain ⟨⟨⟨hx, hb, hml, hown, hts⟩, hret9, hlocks⟩, hK, hE, hA⟩ := id hC
  obtain ⟨⟨⟨hxL, htx, hfx⟩, ⟨hmsL, htms, hfms⟩, ⟨hcpL, htcp, hfcp⟩⟩, hgn, hgk9⟩ := id hg
  obtain ⟨hs1, hs2, hs3, hs4, hs5, hs6⟩ := id hs
  refine lv_aload_n hx hb d_P_grow_0 rfl (lv_at hl 0 rfl) ?_
  refine lv_iload_n hx hb d_P_grow_1 rfl (lv_at hl 1 rfl) ?_
  refine callXVq (As := [.int mm]) (n9 := 1) hC hw (c_memoryOf l hst D kc _ _ _ x ms cp (nI nm) (nI al) gm hxL hfx hmsL hfms mm) k_co_P_memoryOf k_ml_P_49 k_im_P_memoryOf k_se_P_memoryOf k_in_P rfl rfl (by decide +kernel) rfl ⟨Nat.le_of_ble_eq_true rfl, Nat.le_of_ble_eq_true rfl⟩ hxL hfx rfl hl.1 rfl (Nat.le_of_ble_eq_true rfl) d_P_grow_2 ⟨Nat.le_of_ble_eq_true rfl, Nat.le_of_ble_eq_true rfl⟩ (fun E ce q9 u H locs ho hw h1 h2 h3 => ?_) (fun o u H locs hp hw => ?_)
  · obtain ⟨rfl, ho, rfl⟩ := ho
    have hno := root_not hg hs1 ho
    exact pg_out hex hlocks hw h1 h2 h3 (⟨rfl, hno, rfl⟩) (by omega) (by omega)
  · obtain ⟨k, hk24, rfl, rfl, hne, rfl⟩ := hp
    have hkn : k < nm := root_iff hg hk24 hne
    obtain ⟨am, ra, N, g, hgk, hm, hNof⟩ := hgk9 k hkn
    obtain ⟨⟨ham, hta, hem⟩, ⟨hra, htr, her⟩, hN, hbs, hrow⟩ := id hm
    obtain ⟨hpN, hp16⟩ := Nof_le hs hkn hNof
    refine tp_v (v := .ref am) (by rw [hgk]; rfl) ?_
    refine lv_astore_n (lv' := [(3, .ref am), (0, .ref x), (1, .int (nI k)), (2, .int gn)]) hx hb d_P_grow_5 rfl hl (by decide) rfl (fun ls hl => ?_)
    refine lv_iload_n hx hb d_P_grow_6 rfl (lv_at hl 3 rfl) ?_
    refine callSl (As := [.int gn]) (n9 := 1) hC hw (c_withoutSign l D kc _ _ _ gn) k_co_P_withoutSign k_ml_P_56 k_sm_P_withoutSign k_in_P rfl rfl (by decide +kernel) rfl ⟨Nat.le_of_ble_eq_true rfl, Nat.le_of_ble_eq_true rfl⟩ hl.1 rfl (Nat.le_of_ble_eq_true rfl) d_P_grow_7 ⟨Nat.le_of_ble_eq_true rfl, Nat.le_of_ble_eq_true rfl⟩ (fun r9 u H locs hp hw => ?_)
    obtain ⟨rfl, rfl⟩ := hp
    obtain ⟨lim, hlim, hlim9, hlimv⟩ := limP_of hs hkn
    have hu := uI_lt gn
    refine lv_lstore (lv' := [(4, .long (lN (uI gn))), (3, .ref am), (0, .ref x), (1, .int (nI k)), (2, .int gn)]) hx hb d_P_grow_10 hl (by decide) rfl (fun ls hl => ?_)
    refine lv_aload_n hx hb d_P_grow_12 rfl (lv_at hl 1 rfl) ?_
    refine get_M hC hw ham hem 1 (by decide) k_fl_P_53 rfl d_P_grow_13 ?_
    refine lv_istore (lv' := [(6, .int (nI (cnt om al k))), (4, .long (lN (uI gn))), (3, .ref am), (0, .ref x), (1, .int (nI k)), (2, .int gn)]) hx hb d_P_grow_16 hl (by decide) rfl (fun ls hl => ?_)
    refine lv_iload hx hb d_P_grow_18 (lv_at hl 0 rfl) ?_
    refine lv_i2l hx hb d_P_grow_20 rfl ?_
    refine lv_lload hx hb d_P_grow_21 (lv_at hl 1 rfl) ?_
    refine lv_ladd hx hb d_P_grow_23 ?_
    refine tp_l (v := lN (cnt om al k + uI gn)) (by rw [nI_toI64 _ (by omega), lN_add]) ?_
    refine lv_aload_n hx hb d_P_grow_24 rfl (lv_at hl 2 rfl) ?_
    refine callVi (As := []) (n9 := 0) hC hw (c_M_pageLimit l D kc _ _ _ am ham (mo k) (cnt om al k) ra (by omega) hem) k_co_M_pageLimit k_ml_P_60 k_im_M_pageLimit k_se_M_pageLimit k_in_M rfl rfl (by decide +kernel) rfl ⟨Nat.le_of_ble_eq_true rfl, Nat.le_of_ble_eq_true rfl⟩ ham hem rfl hl.1 rfl (Nat.le_of_ble_eq_true rfl) d_P_grow_25 ⟨Nat.le_of_ble_eq_true rfl, Nat.le_of_ble_eq_true rfl⟩ (fun r9 u H locs hp hw => ?_)
    obtain ⟨rfl, rfl⟩ := hp
    refine tp_i (v := nI lim) (hlimv) ?_
    refine lv_i2l hx hb d_P_grow_28 rfl ?_
    refine tp_l (v := lN lim) (nI_toI64 _ (by omega)) ?_
    refine W.lcmp hx hb d_P_grow_29 ?_
    refine lv_if_gt (tgt := 48) hx hb d_P_grow_30 (by decide) (fun c1 => ?_) (fun c1 => ?_)
    · refine lv_iconst (v := (-1)) hx hb d_P_grow_48 (by decide) ?_
      exact vx_ret (pg_iret hC.1 hw (⟨k, hkn, rfl, lim, hlim, Or.inl ⟨fun h => by rw [lg_cmp_gt, pk_lLT (by omega) (by omega)] at c1; omega, rfl, rfl⟩⟩) d_P_grow_49)
    · refine lv_aload_n hx hb d_P_grow_33 rfl (lv_at hl 3 rfl) ?_
      refine get_P hC hw hxL hfx 3 (by decide) k_fl_P_23 rfl d_P_grow_34 ?_
      refine lv_i2l hx hb d_P_grow_37 rfl ?_
      refine tp_l (v := lN al) (nI_toI64 _ (by omega)) ?_
      refine lv_lload hx hb d_P_grow_38 (lv_at hl 1 rfl) ?_
      refine lv_ladd hx hb d_P_grow_40 ?_
      refine tp_l (v := lN (al + uI gn)) (lN_add _ _) ?_
      refine lv_ldc2 (v := 16) hx hb hown (hts _ (gg_mem k_cn_P_64)) d_P_grow_41 ?_
      refine W.lcmp hx hb d_P_grow_44 ?_
      refine lv_if_le (tgt := 50) hx hb d_P_grow_45 (by decide) (fun c2 => ?_) (fun c2 => ?_)
      · have hle1 : cnt om al k + uI gn ≤ lim := by rw [lg_cmp_gt, pk_lLT (by omega) (by omega)] at c1; omega
        have hle2 : al + uI gn ≤ 16 := by rw [lg_cmp_le] at c2; exact (pk_lLE (b := 16) (by omega) (by omega)).mp c2
        have hgn : gn = nI (uI gn) := (nI_uI gn).symm
        refine lv_aload_n hx hb d_P_grow_50 rfl (lv_at hl 2 rfl) ?_
        refine lv_iload hx hb d_P_grow_51 (lv_at hl 0 rfl) ?_
        refine lv_iload_n hx hb d_P_grow_53 rfl (lv_at hl 5 rfl) ?_
        refine lv_iadd hx hb d_P_grow_54 ?_
        refine tp_i (v := nI (cnt om al k + uI gn)) (by rw [hgn, nI_add, uI_nI (by omega)]) ?_
        refine put_M hC hw ham hem 1 (by decide) k_fl_P_53 rfl rfl rfl (Nat.le_of_ble_eq_true rfl) d_P_grow_55 (fun H locs hw => ?_)
        have hxam : x ≠ am := fun e => by rw [e, hta] at htx; cases htx; omega
        obtain ⟨f1, hf1⟩ : ∃ F, F = va_up f am (.inr (0, [.int (mo k), .int (nI (cnt om al k + uI gn)), .ref ra])) := ⟨_, rfl⟩
        have hw := pw_as (f' := f1) hw rfl hf1.symm
        have hfx1 : f1 x = .inr (2, [.ref ms, .ref cp, .int (nI nm), .int (nI al)]) := by rw [hf1, va_up_ne _ _ hxam]; exact hfx
        refine lv_aload_n hx hb d_P_grow_58 rfl (lv_at hl 3 rfl) ?_
        refine lv_dup hx hb d_P_grow_59 rfl ?_
        refine get_P hC hw hxL hfx1 3 (by decide) k_fl_P_23 rfl d_P_grow_60 ?_
        refine lv_iload_n hx hb d_P_grow_63 rfl (lv_at hl 5 rfl) ?_
        refine lv_iadd hx hb d_P_grow_64 ?_
        refine tp_i (v := nI (al + uI gn)) (by rw [hgn, nI_add, uI_nI (by omega)]) ?_
        refine put_P hC hw hxL hfx1 3 (by decide) k_fl_P_23 rfl rfl rfl (Nat.le_of_ble_eq_true rfl) d_P_grow_65 (fun H locs hw => ?_)
        obtain ⟨f2, hf2⟩ : ∃ F, F = va_up f1 x (.inr (2, [.ref ms, .ref cp, .int (nI nm), .int (nI (al + uI gn))])) := ⟨_, rfl⟩
        have hw := pw_as (f' := f2) hw rfl hf2.symm
        obtain ⟨hr2, he2⟩ := root_grow (d := uI gn) (f' := f2) hg hs1 hkn hgk hm hNof (by rw [hf2, va_up_ne _ _ (Ne.symm hxam), hf1, va_up_self]) (by rw [hf2, va_up_self]) (fun a h1 h2 => by rw [hf2, va_up_ne _ _ h2, hf1, va_up_ne _ _ h1])
        refine lv_iload hx hb d_P_grow_68 (lv_at hl 0 rfl) ?_
        exact vx_ret (pg_iret hC.1 hw (⟨k, hkn, rfl, lim, hlim, Or.inr ⟨hle1, hle2, rfl, tg, ⟨ms, cp, gm, hc, hr2⟩, he2⟩⟩) d_P_grow_70)
      · refine lv_iconst (v := (-1)) hx hb d_P_grow_48 (by decide) ?_
        exact vx_ret (pg_iret hC.1 hw (⟨k, hkn, rfl, lim, hlim, Or.inl ⟨fun h => c2 (by rw [lg_cmp_le]; exact (pk_lLE (b := 16) (by omega) (by omega)).mpr h.2), rfl, rfl⟩⟩) d_P_grow_49)
