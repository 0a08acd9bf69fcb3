/-! PagedBytes and Memory: the leaves -/
def uI (x : Int32) : Nat := x.toBitVec.toNat
theorem uI_lt (x : Int32) : uI x < 4294967296 := x.toBitVec.isLt
theorem uI_and (x : Int32) : x.toInt64 &&& 4294967295 = lN (uI x) := by
  apply Int64.toBitVec_inj.1
  rw [Int64.toBitVec_and, Int32.toBitVec_toInt64]
  show x.toBitVec.signExtend 64 &&& 4294967295#64 = BitVec.ofNat 64 x.toBitVec.toNat
  apply BitVec.eq_of_getLsbD_eq
  intro i hi
  have h2 : (4294967295#64).getLsbD i = decide (i < 32) := (by decide +kernel : ∀ i, i < 64 → (4294967295#64).getLsbD i = decide (i < 32)) i hi
  rw [BitVec.getLsbD_and, h2, BitVec.getLsbD_signExtend, BitVec.getLsbD_ofNat]
  rcases Nat.lt_or_ge i 32 with h | h
  · simp [h, hi, BitVec.getLsbD]
  · have : x.toBitVec.toNat.testBit i = false := Nat.testBit_lt_two_pow (Nat.lt_of_lt_of_le x.toBitVec.isLt (Nat.pow_le_pow_right (by decide) h))
    simp [Nat.not_lt.mpr h, this]
set_option maxHeartbeats 4000000 in
set_option maxRecDepth 100000 in
theorem c_withoutSign (l : Launch) (D : va_G) (kc : Nat → ClassId) (L : List Nat) (f : Nat → va_E) (sz : Nat) (a : Int32) : Met l y_P_withoutSign w_P_withoutSign ({ frames := 0, cells := 0, slots := 0, locals := 0 }) (PP D kc L f sz [.int a]) (Ql D L f sz (fun r u => r = lN (uI a) ∧ u = (L, f))) 0 0 (pA L f sz) := by
  refine kx_met (by decide) (Nat.le_of_ble_eq_true rfl) ?_
  intro p e s m below meth c hC hnm hw hsz ls hl
  subst hsz
  have hl : lv_has ls 1 [(0, .int a)] := hl
  obtain ⟨⟨⟨hx, hb, hml, hown, hts⟩, hret9, hlocks⟩, hK, hE, hA⟩ := id hC
  refine lv_iload_n hx hb d_P_withoutSign_0 rfl (lv_at hl 0 rfl) ?_
  refine lv_i2l hx hb d_P_withoutSign_1 rfl ?_
  refine lv_ldc2 (v := 4294967295) hx hb hown (hts _ (gg_mem k_cn_P_95)) d_P_withoutSign_2 ?_
  refine lv_land hx hb d_P_withoutSign_5 ?_
  refine tp_l (v := lN (uI a)) (uI_and a) ?_
  exact pg_lret hC.1 hw (⟨rfl, rfl⟩) d_P_withoutSign_6
set_option maxHeartbeats 4000000 in
set_option maxRecDepth 100000 in
theorem c_withSign (l : Launch) (D : va_G) (kc : Nat → ClassId) (L : List Nat) (f : Nat → va_E) (sz : Nat) (x : Int64) (n : Int32) : Met l y_P_withSign w_P_withSign ({ frames := 0, cells := 0, slots := 0, locals := 0 }) (PP D kc L f sz [.long x, .int n]) (Ql D L f sz (fun r u => r = (x <<< ((8 * (8 - n)).toInt64 &&& 63)) >>> ((8 * (8 - n)).toInt64 &&& 63) ∧ u = (L, f))) 0 0 (pA L f sz) := by
  refine kx_met (by decide) (Nat.le_of_ble_eq_true rfl) ?_
  intro p e s m below meth c hC hnm hw hsz ls hl
  subst hsz
  have hl : lv_has ls 4 [(0, .long x), (2, .int n)] := hl
  obtain ⟨⟨⟨hx, hb, hml, hown, hts⟩, hret9, hlocks⟩, hK, hE, hA⟩ := id hC
  refine lv_bipush (v := 8) hx hb d_P_withSign_0 (by decide) ?_
  refine lv_bipush (v := 8) hx hb d_P_withSign_2 (by decide) ?_
  refine lv_iload_n hx hb d_P_withSign_4 rfl (lv_at hl 1 rfl) ?_
  refine lv_isub hx hb d_P_withSign_5 ?_
  refine lv_imul hx hb d_P_withSign_6 ?_
  refine lv_istore_n (lv' := [(3, .int (8 * (8 - n))), (0, .long x), (2, .int n)]) hx hb d_P_withSign_7 rfl hl (by decide) rfl (fun ls hl => ?_)
  refine lv_lload_n hx hb d_P_withSign_8 rfl (lv_at hl 1 rfl) ?_
  refine lv_iload_n hx hb d_P_withSign_9 rfl (lv_at hl 0 rfl) ?_
  refine lv_lshl hx hb d_P_withSign_10 rfl ?_
  refine lv_iload_n hx hb d_P_withSign_11 rfl (lv_at hl 0 rfl) ?_
  refine lv_lshr hx hb d_P_withSign_12 rfl ?_
  exact pg_lret hC.1 hw (⟨rfl, rfl⟩) d_P_withSign_13
set_option maxHeartbeats 4000000 in
set_option maxRecDepth 100000 in
theorem c_kindOf (l : Launch) (hst : l.stackTraces = false) (D : va_G) (kc : Nat → ClassId) (L : List Nat) (f : Nat → va_E) (sz : Nat) (op fi ks : Int32) : vx_Met l y_P_kindOf w_P_kindOf ({ frames := 6, cells := 1, slots := 6, locals := 82 }) (PP D kc L f sz [.int op, .int fi, .int ks]) (Qi D L f sz (fun r u => r = op - fi ∧ (¬ op < fi ∧ op < fi + ks) ∧ u = (L, f))) (XX D L f sz (fun E u => E = eIAE ∧ ¬ (¬ op < fi ∧ op < fi + ks) ∧ u = (L, f))) 1 6 (pA L f sz) := by
  refine kx_metX (by decide) (Nat.le_of_ble_eq_true rfl) ?_
  intro p e s m below meth c hC hex hw hsz ls hl
  subst hsz
  have hl : lv_has ls 3 [(0, .int op), (1, .int fi), (2, .int ks)] := hl
  obtain ⟨⟨⟨hx, hb, hml, hown, hts⟩, hret9, hlocks⟩, hK, hE, hA⟩ := id hC
  refine lv_iload_n hx hb d_P_kindOf_0 rfl (lv_at hl 0 rfl) ?_
  refine lv_iload_n hx hb d_P_kindOf_1 rfl (lv_at hl 1 rfl) ?_
  refine lv_icmp_lt (tgt := 12) hx hb d_P_kindOf_2 (by decide) (fun c1 => ?_) (fun c1 => ?_)
  · exact throwS (cls := eIAE) (is := 124) (text := "there is no such load or store") hC hw hst hex (by decide +kernel) k_cl_P_27 k_in_JIllegalArgumentException (by decide +kernel) hl.1 d_P_kindOf_12 d_P_kindOf_15 d_P_kindOf_16 d_P_kindOf_18 d_P_kindOf_21 ⟨Nat.le_of_ble_eq_true rfl, Nat.le_of_ble_eq_true rfl, Nat.le_of_ble_eq_true rfl, Nat.le_of_ble_eq_true rfl⟩ (Nat.le_refl _) (Nat.le_refl _) (⟨rfl, fun h => h.1 c1, rfl⟩)
  · refine lv_iload_n hx hb d_P_kindOf_5 rfl (lv_at hl 0 rfl) ?_
    refine lv_iload_n hx hb d_P_kindOf_6 rfl (lv_at hl 1 rfl) ?_
    refine lv_iload_n hx hb d_P_kindOf_7 rfl (lv_at hl 2 rfl) ?_
    refine lv_iadd hx hb d_P_kindOf_8 ?_
    refine lv_icmp_lt (tgt := 22) hx hb d_P_kindOf_9 (by decide) (fun c2 => ?_) (fun c2 => ?_)
    · refine lv_iload_n hx hb d_P_kindOf_22 rfl (lv_at hl 0 rfl) ?_
      refine lv_iload_n hx hb d_P_kindOf_23 rfl (lv_at hl 1 rfl) ?_
      refine lv_isub hx hb d_P_kindOf_24 ?_
      refine W.widen (k := 1) (n := 6) (by omega) (by omega) ?_
      exact vx_ret (pg_iret hC.1 hw (⟨rfl, ⟨c1, c2⟩, rfl⟩) d_P_kindOf_25)
    · exact throwS (cls := eIAE) (is := 124) (text := "there is no such load or store") hC hw hst hex (by decide +kernel) k_cl_P_27 k_in_JIllegalArgumentException (by decide +kernel) hl.1 d_P_kindOf_12 d_P_kindOf_15 d_P_kindOf_16 d_P_kindOf_18 d_P_kindOf_21 ⟨Nat.le_of_ble_eq_true rfl, Nat.le_of_ble_eq_true rfl, Nat.le_of_ble_eq_true rfl, Nat.le_of_ble_eq_true rfl⟩ (Nat.le_refl _) (Nat.le_refl _) (⟨rfl, fun h => c2 h.2, rfl⟩)
set_option maxHeartbeats 4000000 in
set_option maxRecDepth 100000 in
theorem c_checkCount (l : Launch) (hst : l.stackTraces = false) (D : va_G) (kc : Nat → ClassId) (L : List Nat) (f : Nat → va_E) (sz : Nat) (n li : Int32) : vx_Met l y_P_checkCount w_P_checkCount ({ frames := 6, cells := 1, slots := 6, locals := 82 }) (PP D kc L f sz [.int n, .int li]) (Qv D L f sz (fun u => (¬ n < 0 ∧ n ≤ li) ∧ u = (L, f))) (XX D L f sz (fun E u => E = eIAE ∧ ¬ (¬ n < 0 ∧ n ≤ li) ∧ u = (L, f))) 1 6 (pA L f sz) := by
  refine kx_metX (by decide) (Nat.le_of_ble_eq_true rfl) ?_
  intro p e s m below meth c hC hex hw hsz ls hl
  subst hsz
  have hl : lv_has ls 2 [(0, .int n), (1, .int li)] := hl
  obtain ⟨⟨⟨hx, hb, hml, hown, hts⟩, hret9, hlocks⟩, hK, hE, hA⟩ := id hC
  refine lv_iload_n hx hb d_P_checkCount_0 rfl (lv_at hl 0 rfl) ?_
  refine lv_if_lt (tgt := 9) hx hb d_P_checkCount_1 (by decide) (fun c1 => ?_) (fun c1 => ?_)
  · exact throwS (cls := eIAE) (is := 126) (text := "n is below 0 or too great") hC hw hst hex (by decide +kernel) k_cl_P_27 k_in_JIllegalArgumentException (by decide +kernel) hl.1 d_P_checkCount_9 d_P_checkCount_12 d_P_checkCount_13 d_P_checkCount_15 d_P_checkCount_18 ⟨Nat.le_of_ble_eq_true rfl, Nat.le_of_ble_eq_true rfl, Nat.le_of_ble_eq_true rfl, Nat.le_of_ble_eq_true rfl⟩ (Nat.le_refl _) (Nat.le_refl _) (⟨rfl, fun h => h.1 c1, rfl⟩)
  · refine lv_iload_n hx hb d_P_checkCount_4 rfl (lv_at hl 0 rfl) ?_
    refine lv_iload_n hx hb d_P_checkCount_5 rfl (lv_at hl 1 rfl) ?_
    refine lv_icmp_le (tgt := 19) hx hb d_P_checkCount_6 (by decide) (fun c2 => ?_) (fun c2 => ?_)
    · refine W.widen (k := 1) (n := 6) (by omega) (by omega) ?_
      exact vx_ret (pg_vret hC.1 hw (⟨⟨c1, c2⟩, rfl⟩) d_P_checkCount_19)
    · exact throwS (cls := eIAE) (is := 126) (text := "n is below 0 or too great") hC hw hst hex (by decide +kernel) k_cl_P_27 k_in_JIllegalArgumentException (by decide +kernel) hl.1 d_P_checkCount_9 d_P_checkCount_12 d_P_checkCount_13 d_P_checkCount_15 d_P_checkCount_18 ⟨Nat.le_of_ble_eq_true rfl, Nat.le_of_ble_eq_true rfl, Nat.le_of_ble_eq_true rfl, Nat.le_of_ble_eq_true rfl⟩ (Nat.le_refl _) (Nat.le_refl _) (⟨rfl, fun h => c2 h.2, rfl⟩)
set_option maxHeartbeats 4000000 in
set_option maxRecDepth 100000 in
theorem c_M_size (l : Launch) (D : va_G) (kc : Nat → ClassId) (L : List Nat) (f : Nat → va_E) (sz : Nat) (am : Nat) (ham : am ∈ L) (mo : Int32) (pg ra : Nat) (hpg : pg ≤ 65536) (hem : f am = .inr (0, [.int mo, .int (nI pg), .ref ra])) : Met l y_M_size w_M_size ({ frames := 0, cells := 0, slots := 0, locals := 0 }) (PP D kc L f sz [.ref am]) (Ql D L f sz (fun r u => r = lN (pg * 65536) ∧ u = (L, f))) 0 0 (pA L f sz) := by
  refine kx_met (by decide) (Nat.le_of_ble_eq_true rfl) ?_
  intro p e s m below meth c hC hnm hw hsz ls hl
  subst hsz
  have hl : lv_has ls 1 [(0, .ref am)] := hl
  obtain ⟨⟨⟨hx, hb, hml, hown, hts⟩, hret9, hlocks⟩, hK, hE, hA⟩ := id hC
  refine lv_aload_n hx hb d_M_size_0 rfl (lv_at hl 0 rfl) ?_
  refine get_M hC hw ham hem 1 (by decide) k_fl_M_15 rfl d_M_size_1 ?_
  refine lv_i2l hx hb d_M_size_4 rfl ?_
  refine lv_ldc2 (v := 65536) hx hb hown (hts _ (gg_mem k_cn_M_34)) d_M_size_5 ?_
  refine lv_lmul hx hb d_M_size_8 ?_
  refine tp_l (v := lN (pg * 65536)) (by rw [nI_l (Nat.lt_of_le_of_lt hpg (by decide))]; exact lN_mul pg 65536) ?_
  exact pg_lret hC.1 hw (⟨rfl, rfl⟩) d_M_size_9
set_option maxHeartbeats 4000000 in
set_option maxRecDepth 100000 in
theorem c_M_pageLimit (l : Launch) (D : va_G) (kc : Nat → ClassId) (L : List Nat) (f : Nat → va_E) (sz : Nat) (am : Nat) (ham : am ∈ L) (mo : Int32) (pg ra : Nat) (hpg : pg ≤ 65536) (hem : f am = .inr (0, [.int mo, .int (nI pg), .ref ra])) : Met l y_M_pageLimit w_M_pageLimit ({ frames := 0, cells := 0, slots := 0, locals := 0 }) (PP D kc L f sz [.ref am]) (Qi D L f sz (fun r u => r = (if mo = -1 then 65536 else mo) ∧ u = (L, f))) 0 0 (pA L f sz) := by
  refine kx_met (by decide) (Nat.le_of_ble_eq_true rfl) ?_
  intro p e s m below meth c hC hnm hw hsz ls hl
  subst hsz
  have hl : lv_has ls 1 [(0, .ref am)] := hl
  obtain ⟨⟨⟨hx, hb, hml, hown, hts⟩, hret9, hlocks⟩, hK, hE, hA⟩ := id hC
  refine lv_aload_n hx hb d_M_pageLimit_0 rfl (lv_at hl 0 rfl) ?_
  refine get_M hC hw ham hem 0 (by decide) k_fl_M_9 rfl d_M_pageLimit_1 ?_
  refine lv_iconst (v := (-1)) hx hb d_M_pageLimit_4 (by decide) ?_
  refine lv_icmp_ne (tgt := 13) hx hb d_M_pageLimit_5 (by decide) (fun c1 => ?_) (fun c1 => ?_)
  · refine lv_aload_n hx hb d_M_pageLimit_13 rfl (lv_at hl 0 rfl) ?_
    refine get_M hC hw ham hem 0 (by decide) k_fl_M_9 rfl d_M_pageLimit_14 ?_
    exact pg_iret hC.1 hw (⟨by rw [if_neg c1], rfl⟩) d_M_pageLimit_17
  · refine lv_ldc (v := 65536) hx hb hown (hts _ (gg_mem k_cn_M_33)) d_M_pageLimit_8 ?_
    refine lv_goto (tgt := 17) hx hb d_M_pageLimit_10 (by decide) ?_
    exact pg_iret hC.1 hw (⟨by rw [if_pos c1], rfl⟩) d_M_pageLimit_17
set_option maxHeartbeats 4000000 in
set_option maxRecDepth 100000 in
theorem c_checkThere (l : Launch) (hst : l.stackTraces = false) (D : va_G) (kc : Nat → ClassId) (L : List Nat) (f : Nat → va_E) (sz : Nat) (am : Nat) (ham : am ∈ L) (mo : Int32) (pg ra : Nat) (hpg : pg ≤ 65536) (hem : f am = .inr (0, [.int mo, .int (nI pg), .ref ra])) (pl : Int64) (n : Int32) : vx_Met l y_P_checkThere w_P_checkThere ({ frames := 6, cells := 1, slots := 6, locals := 82 }) (PP D kc L f sz [.ref am, .long pl, .int n]) (Qv D L f sz (fun u => (¬ pl < 0 ∧ pl + n.toInt64 ≤ lN (pg * 65536)) ∧ u = (L, f))) (XX D L f sz (fun E u => E = eIOB ∧ ¬ (¬ pl < 0 ∧ pl + n.toInt64 ≤ lN (pg * 65536)) ∧ u = (L, f))) 1 6 (pA L f sz) := by
  refine kx_metX (by decide) (Nat.le_of_ble_eq_true rfl) ?_
  intro p e s m below meth c hC hex hw hsz ls hl
  subst hsz
  have hl : lv_has ls 4 [(0, .ref am), (1, .long pl), (3, .int n)] := hl
  obtain ⟨⟨⟨hx, hb, hml, hown, hts⟩, hret9, hlocks⟩, hK, hE, hA⟩ := id hC
  refine lv_lload_n hx hb d_P_checkThere_0 rfl (lv_at hl 1 rfl) ?_
  refine lv_lconst (v := 0) hx hb d_P_checkThere_1 (by decide) ?_
  refine W.lcmp hx hb d_P_checkThere_2 ?_
  refine lv_if_lt (tgt := 18) hx hb d_P_checkThere_3 (by decide) (fun c1 => ?_) (fun c1 => ?_)
  · exact throwS (cls := eIOB) (is := 134) (text := "a byte is not in the memory") hC hw hst hex (by decide +kernel) k_cl_P_132 k_in_JIndexOutOfBoundsException (by decide +kernel) hl.1 d_P_checkThere_18 d_P_checkThere_21 d_P_checkThere_22 d_P_checkThere_24 d_P_checkThere_27 ⟨Nat.le_of_ble_eq_true rfl, Nat.le_of_ble_eq_true rfl, Nat.le_of_ble_eq_true rfl, Nat.le_of_ble_eq_true rfl⟩ (Nat.le_refl _) (Nat.le_refl _) (⟨rfl, fun h => h.1 ((lg_cmp_lt _ _).mp c1), rfl⟩)
  · refine lv_lload_n hx hb d_P_checkThere_6 rfl (lv_at hl 1 rfl) ?_
    refine lv_iload_n hx hb d_P_checkThere_7 rfl (lv_at hl 2 rfl) ?_
    refine lv_i2l hx hb d_P_checkThere_8 rfl ?_
    refine lv_ladd hx hb d_P_checkThere_9 ?_
    refine lv_aload_n hx hb d_P_checkThere_10 rfl (lv_at hl 0 rfl) ?_
    refine callVl (As := []) (n9 := 0) hC hw (c_M_size l D kc _ _ _ am ham mo pg ra hpg hem) k_co_M_size k_ml_P_128 k_im_M_size k_se_M_size k_in_M rfl rfl (by decide +kernel) rfl ⟨Nat.le_of_ble_eq_true rfl, Nat.le_of_ble_eq_true rfl⟩ ham hem rfl hl.1 rfl (Nat.le_of_ble_eq_true rfl) d_P_checkThere_11 ⟨Nat.le_of_ble_eq_true rfl, Nat.le_of_ble_eq_true rfl⟩ (fun r u H locs hp hw => ?_)
    obtain ⟨rfl, rfl⟩ := hp
    refine W.lcmp hx hb d_P_checkThere_14 ?_
    refine lv_if_le (tgt := 28) hx hb d_P_checkThere_15 (by decide) (fun c2 => ?_) (fun c2 => ?_)
    · refine W.widen (k := 1) (n := 6) (by omega) (by omega) ?_
      exact vx_ret (pg_vret hC.1 hw (⟨⟨fun h => c1 ((lg_cmp_lt _ _).mpr h), (lg_cmp_le _ _).mp c2⟩, rfl⟩) d_P_checkThere_28)
    · exact throwS (cls := eIOB) (is := 134) (text := "a byte is not in the memory") hC hw hst hex (by decide +kernel) k_cl_P_132 k_in_JIndexOutOfBoundsException (by decide +kernel) hl.1 d_P_checkThere_18 d_P_checkThere_21 d_P_checkThere_22 d_P_checkThere_24 d_P_checkThere_27 ⟨Nat.le_of_ble_eq_true rfl, Nat.le_of_ble_eq_true rfl, Nat.le_of_ble_eq_true rfl, Nat.le_of_ble_eq_true rfl⟩ (Nat.le_refl _) (Nat.le_refl _) (⟨rfl, fun h => c2 ((lg_cmp_le _ _).mpr h.2), rfl⟩)
