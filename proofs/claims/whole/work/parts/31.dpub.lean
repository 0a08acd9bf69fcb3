/-! The reference: size, isWhole, place, isThere, pages, fits, its constructor -/
def szM : Nat → Nat := fun j => [4, 8, 4, 8, 1, 1, 2, 2, 1, 1, 2, 2, 4, 4, 4, 8, 4, 8, 1, 2, 1, 2, 4].getD j 1
theorem szM_L : ∀ kd, kd < 14 → szM kd = szL kd := by decide +kernel
theorem szM_S : ∀ kd, kd < 9 → szM (14 + kd) = szS kd := by decide +kernel
theorem szM_ok : ∀ j, j < 23 → 1 ≤ szM j ∧ szM j ≤ 8 := by decide +kernel
def thereP (pl : Int64) (nb c : Nat) : Prop := nb = 0 ∨ (¬ pl < 0 ∧ pl + lN nb ≤ lN (65536 * c))
set_option maxHeartbeats 4000000 in
set_option maxRecDepth 100000 in
theorem c_D_size (l : Launch) (D : va_G) (kc : Nat → ClassId) (L : List Nat) (f : Nat → va_E) (sz : Nat) (op : Int32) : Met l y_D_size w_D_size ({ frames := 0, cells := 0, slots := 0, locals := 0 }) (PP D kc L f sz [.int op]) (Qi D L f sz (fun r u => (∃ z, r = nI z ∧ 1 ≤ z ∧ z ≤ 8 ∧ (∀ kd, kd < 14 → op = nI (40 + kd) → z = szL kd) ∧ (∀ kd, kd < 9 → op = nI (54 + kd) → z = szS kd)) ∧ u = (L, f))) 0 0 (pA L f sz) := by
  refine kx_met (by decide) (Nat.le_of_ble_eq_true rfl) ?_
  intro p e s m below meth c hC hnm hw hsz ls hl
  subst hsz
  have hl : lv_has ls 1 [(0, .int op)] := hl
  obtain ⟨⟨⟨hx, hb, hml, hown, hts⟩, hret9, hlocks⟩, hK, hE, hA⟩ := id hC
  refine lv_iload_n hx hb d_D_size_0 rfl (lv_at hl 0 rfl) ?_
  by_cases hin : 40 ≤ op.toInt ∧ op.toInt ≤ 62
  · obtain ⟨j, hj, rfl⟩ : ∃ j, j < 23 ∧ op = nI (40 + j) := by
      obtain ⟨i, hi, rfl⟩ := nI_of (x := op) (fun q => by
        have h2 : op.toInt < (0 : Int32).toInt := Int32.lt_iff_toInt_lt.mp q
        have h3 : (0 : Int32).toInt = 0 := by decide
        omega)
      rw [nI_toInt hi] at hin
      exact ⟨i - 40, by omega, by rw [show 40 + (i - 40) = i by omega]⟩
    have e9 : (nI (40 + j)).toInt - 40 = (j : Int) := by rw [nI_toInt (by omega)]; omega
    have hz : ∀ r : Int32, r = nI (szM j) → ((∃ z, r = nI z ∧ 1 ≤ z ∧ z ≤ 8 ∧ (∀ kd, kd < 14 → nI (40 + j) = nI (40 + kd) → z = szL kd) ∧ (∀ kd, kd < 9 → nI (40 + j) = nI (54 + kd) → z = szS kd)) ∧ ((L, f) : pU) = (L, f)) := fun r hr => ⟨⟨szM j, hr, (szM_ok j hj).1, (szM_ok j hj).2, fun kd h1 h2 => by
      have h3 := (nI_eq (by omega) (by omega)).mp h2
      rw [show j = kd by omega]; exact szM_L kd h1, fun kd h1 h2 => by
      have h3 := (nI_eq (by omega) (by omega)).mp h2
      rw [show j = 14 + kd by omega]; exact szM_S kd h1⟩, rfl⟩
    rcases (show j = 0 ∨ j = 1 ∨ j = 2 ∨ j = 3 ∨ j = 4 ∨ j = 5 ∨ j = 6 ∨ j = 7 ∨ j = 8 ∨ j = 9 ∨ j = 10 ∨ j = 11 ∨ j = 12 ∨ j = 13 ∨ j = 14 ∨ j = 15 ∨ j = 16 ∨ j = 17 ∨ j = 18 ∨ j = 19 ∨ j = 20 ∨ j = 21 ∨ j = 22 by omega) with rfl | rfl | rfl | rfl | rfl | rfl | rfl | rfl | rfl | rfl | rfl | rfl | rfl | rfl | rfl | rfl | rfl | rfl | rfl | rfl | rfl | rfl | rfl
    · refine lv_tableIn (off := 110) (tgt := 111) hx hb d_D_size_1 (Int.not_lt.mpr hin.1) (Int.not_lt.mpr hin.2) (by rw [e9]; rfl) (by decide) ?_
      refine lv_iconst (v := 4) hx hb d_D_size_111 (by decide) ?_
      exact pg_iret hC.1 hw (hz _ rfl) d_D_size_112
    · refine lv_tableIn (off := 107) (tgt := 108) hx hb d_D_size_1 (Int.not_lt.mpr hin.1) (Int.not_lt.mpr hin.2) (by rw [e9]; rfl) (by decide) ?_
      refine lv_bipush (v := 8) hx hb d_D_size_108 (by decide) ?_
      exact pg_iret hC.1 hw (hz _ rfl) d_D_size_110
    · refine lv_tableIn (off := 110) (tgt := 111) hx hb d_D_size_1 (Int.not_lt.mpr hin.1) (Int.not_lt.mpr hin.2) (by rw [e9]; rfl) (by decide) ?_
      refine lv_iconst (v := 4) hx hb d_D_size_111 (by decide) ?_
      exact pg_iret hC.1 hw (hz _ rfl) d_D_size_112
    · refine lv_tableIn (off := 107) (tgt := 108) hx hb d_D_size_1 (Int.not_lt.mpr hin.1) (Int.not_lt.mpr hin.2) (by rw [e9]; rfl) (by decide) ?_
      refine lv_bipush (v := 8) hx hb d_D_size_108 (by decide) ?_
      exact pg_iret hC.1 hw (hz _ rfl) d_D_size_110
    · refine lv_tableIn (off := 114) (tgt := 115) hx hb d_D_size_1 (Int.not_lt.mpr hin.1) (Int.not_lt.mpr hin.2) (by rw [e9]; rfl) (by decide) ?_
      refine lv_iconst (v := 1) hx hb d_D_size_115 (by decide) ?_
      exact pg_iret hC.1 hw (hz _ rfl) d_D_size_116
    · refine lv_tableIn (off := 114) (tgt := 115) hx hb d_D_size_1 (Int.not_lt.mpr hin.1) (Int.not_lt.mpr hin.2) (by rw [e9]; rfl) (by decide) ?_
      refine lv_iconst (v := 1) hx hb d_D_size_115 (by decide) ?_
      exact pg_iret hC.1 hw (hz _ rfl) d_D_size_116
    · refine lv_tableIn (off := 112) (tgt := 113) hx hb d_D_size_1 (Int.not_lt.mpr hin.1) (Int.not_lt.mpr hin.2) (by rw [e9]; rfl) (by decide) ?_
      refine lv_iconst (v := 2) hx hb d_D_size_113 (by decide) ?_
      exact pg_iret hC.1 hw (hz _ rfl) d_D_size_114
    · refine lv_tableIn (off := 112) (tgt := 113) hx hb d_D_size_1 (Int.not_lt.mpr hin.1) (Int.not_lt.mpr hin.2) (by rw [e9]; rfl) (by decide) ?_
      refine lv_iconst (v := 2) hx hb d_D_size_113 (by decide) ?_
      exact pg_iret hC.1 hw (hz _ rfl) d_D_size_114
    · refine lv_tableIn (off := 114) (tgt := 115) hx hb d_D_size_1 (Int.not_lt.mpr hin.1) (Int.not_lt.mpr hin.2) (by rw [e9]; rfl) (by decide) ?_
      refine lv_iconst (v := 1) hx hb d_D_size_115 (by decide) ?_
      exact pg_iret hC.1 hw (hz _ rfl) d_D_size_116
    · refine lv_tableIn (off := 114) (tgt := 115) hx hb d_D_size_1 (Int.not_lt.mpr hin.1) (Int.not_lt.mpr hin.2) (by rw [e9]; rfl) (by decide) ?_
      refine lv_iconst (v := 1) hx hb d_D_size_115 (by decide) ?_
      exact pg_iret hC.1 hw (hz _ rfl) d_D_size_116
    · refine lv_tableIn (off := 112) (tgt := 113) hx hb d_D_size_1 (Int.not_lt.mpr hin.1) (Int.not_lt.mpr hin.2) (by rw [e9]; rfl) (by decide) ?_
      refine lv_iconst (v := 2) hx hb d_D_size_113 (by decide) ?_
      exact pg_iret hC.1 hw (hz _ rfl) d_D_size_114
    · refine lv_tableIn (off := 112) (tgt := 113) hx hb d_D_size_1 (Int.not_lt.mpr hin.1) (Int.not_lt.mpr hin.2) (by rw [e9]; rfl) (by decide) ?_
      refine lv_iconst (v := 2) hx hb d_D_size_113 (by decide) ?_
      exact pg_iret hC.1 hw (hz _ rfl) d_D_size_114
    · refine lv_tableIn (off := 110) (tgt := 111) hx hb d_D_size_1 (Int.not_lt.mpr hin.1) (Int.not_lt.mpr hin.2) (by rw [e9]; rfl) (by decide) ?_
      refine lv_iconst (v := 4) hx hb d_D_size_111 (by decide) ?_
      exact pg_iret hC.1 hw (hz _ rfl) d_D_size_112
    · refine lv_tableIn (off := 110) (tgt := 111) hx hb d_D_size_1 (Int.not_lt.mpr hin.1) (Int.not_lt.mpr hin.2) (by rw [e9]; rfl) (by decide) ?_
      refine lv_iconst (v := 4) hx hb d_D_size_111 (by decide) ?_
      exact pg_iret hC.1 hw (hz _ rfl) d_D_size_112
    · refine lv_tableIn (off := 110) (tgt := 111) hx hb d_D_size_1 (Int.not_lt.mpr hin.1) (Int.not_lt.mpr hin.2) (by rw [e9]; rfl) (by decide) ?_
      refine lv_iconst (v := 4) hx hb d_D_size_111 (by decide) ?_
      exact pg_iret hC.1 hw (hz _ rfl) d_D_size_112
    · refine lv_tableIn (off := 107) (tgt := 108) hx hb d_D_size_1 (Int.not_lt.mpr hin.1) (Int.not_lt.mpr hin.2) (by rw [e9]; rfl) (by decide) ?_
      refine lv_bipush (v := 8) hx hb d_D_size_108 (by decide) ?_
      exact pg_iret hC.1 hw (hz _ rfl) d_D_size_110
    · refine lv_tableIn (off := 110) (tgt := 111) hx hb d_D_size_1 (Int.not_lt.mpr hin.1) (Int.not_lt.mpr hin.2) (by rw [e9]; rfl) (by decide) ?_
      refine lv_iconst (v := 4) hx hb d_D_size_111 (by decide) ?_
      exact pg_iret hC.1 hw (hz _ rfl) d_D_size_112
    · refine lv_tableIn (off := 107) (tgt := 108) hx hb d_D_size_1 (Int.not_lt.mpr hin.1) (Int.not_lt.mpr hin.2) (by rw [e9]; rfl) (by decide) ?_
      refine lv_bipush (v := 8) hx hb d_D_size_108 (by decide) ?_
      exact pg_iret hC.1 hw (hz _ rfl) d_D_size_110
    · refine lv_tableIn (off := 114) (tgt := 115) hx hb d_D_size_1 (Int.not_lt.mpr hin.1) (Int.not_lt.mpr hin.2) (by rw [e9]; rfl) (by decide) ?_
      refine lv_iconst (v := 1) hx hb d_D_size_115 (by decide) ?_
      exact pg_iret hC.1 hw (hz _ rfl) d_D_size_116
    · refine lv_tableIn (off := 112) (tgt := 113) hx hb d_D_size_1 (Int.not_lt.mpr hin.1) (Int.not_lt.mpr hin.2) (by rw [e9]; rfl) (by decide) ?_
      refine lv_iconst (v := 2) hx hb d_D_size_113 (by decide) ?_
      exact pg_iret hC.1 hw (hz _ rfl) d_D_size_114
    · refine lv_tableIn (off := 114) (tgt := 115) hx hb d_D_size_1 (Int.not_lt.mpr hin.1) (Int.not_lt.mpr hin.2) (by rw [e9]; rfl) (by decide) ?_
      refine lv_iconst (v := 1) hx hb d_D_size_115 (by decide) ?_
      exact pg_iret hC.1 hw (hz _ rfl) d_D_size_116
    · refine lv_tableIn (off := 112) (tgt := 113) hx hb d_D_size_1 (Int.not_lt.mpr hin.1) (Int.not_lt.mpr hin.2) (by rw [e9]; rfl) (by decide) ?_
      refine lv_iconst (v := 2) hx hb d_D_size_113 (by decide) ?_
      exact pg_iret hC.1 hw (hz _ rfl) d_D_size_114
    · refine lv_tableIn (off := 110) (tgt := 111) hx hb d_D_size_1 (Int.not_lt.mpr hin.1) (Int.not_lt.mpr hin.2) (by rw [e9]; rfl) (by decide) ?_
      refine lv_iconst (v := 4) hx hb d_D_size_111 (by decide) ?_
      exact pg_iret hC.1 hw (hz _ rfl) d_D_size_112
  · refine lv_tableOut (tgt := 115) hx hb d_D_size_1 (by omega) (by decide) ?_
    refine lv_iconst (v := 1) hx hb d_D_size_115 (by decide) ?_
    exact pg_iret hC.1 hw (⟨⟨1, rfl, by decide, by decide, fun kd h1 h2 => absurd (by rw [h2, nI_toInt (by omega)]; omega) hin, fun kd h1 h2 => absurd (by rw [h2, nI_toInt (by omega)]; omega) hin⟩, rfl⟩) d_D_size_116
set_option maxHeartbeats 4000000 in
set_option maxRecDepth 100000 in
theorem c_D_isWhole_ld (l : Launch) (D : va_G) (kc : Nat → ClassId) (L : List Nat) (f : Nat → va_E) (sz : Nat) (op : Int32) : Met l y_D_isWhole w_D_isWhole ({ frames := 0, cells := 0, slots := 0, locals := 0 }) (PP D kc L f sz [.int op, .int 0]) (Qi D L f sz (fun r u => ((r = 1 ∧ ∃ kd, kd < 14 ∧ op = nI (40 + kd)) ∨ (r = 0 ∧ ¬ (∃ kd, kd < 14 ∧ op = nI (40 + kd)))) ∧ u = (L, f))) 0 0 (pA L f sz) := by
  refine kx_met (by decide) (Nat.le_of_ble_eq_true rfl) ?_
  intro p e s m below meth c hC hnm hw hsz ls hl
  subst hsz
  have hl : lv_has ls 2 [(0, .int op), (1, .int 0)] := hl
  obtain ⟨⟨⟨hx, hb, hml, hown, hts⟩, hret9, hlocks⟩, hK, hE, hA⟩ := id hC
  refine lv_iload_n hx hb d_D_isWhole_0 rfl (lv_at hl 1 rfl) ?_
  refine lv_if_eq (tgt := 24) hx hb d_D_isWhole_1 (by decide) (fun c0 => ?_) (fun c0 => (c0 rfl).elim)
  refine lv_iload_n hx hb d_D_isWhole_24 rfl (lv_at hl 0 rfl) ?_
  refine lv_bipush (v := 40) hx hb d_D_isWhole_25 (by decide) ?_
  refine lv_icmp_lt (tgt := 40) hx hb d_D_isWhole_27 (by decide) (fun c1 => ?_) (fun c1 => ?_)
  · refine lv_iconst (v := 0) hx hb d_D_isWhole_40 (by decide) ?_
    exact pg_zret hC.1 hw (by decide) (⟨Or.inr ⟨rfl, fun h => by obtain ⟨kd, h1, rfl⟩ := h; exact nI_nlt (a := 40 + kd) (b := 40) (by omega) (by omega) c1⟩, rfl⟩) d_D_isWhole_41
  · refine lv_iload_n hx hb d_D_isWhole_30 rfl (lv_at hl 0 rfl) ?_
    refine lv_bipush (v := 53) hx hb d_D_isWhole_31 (by decide) ?_
    refine lv_icmp_gt (tgt := 40) hx hb d_D_isWhole_33 (by decide) (fun c2 => ?_) (fun c2 => ?_)
    · refine lv_iconst (v := 0) hx hb d_D_isWhole_40 (by decide) ?_
      exact pg_zret hC.1 hw (by decide) (⟨Or.inr ⟨rfl, fun h => by obtain ⟨kd, h1, rfl⟩ := h; exact nI_nlt (a := 53) (b := 40 + kd) (by omega) (by omega) c2⟩, rfl⟩) d_D_isWhole_41
    · refine lv_iconst (v := 1) hx hb d_D_isWhole_36 (by decide) ?_
      refine lv_goto (tgt := 41) hx hb d_D_isWhole_37 (by decide) ?_
      obtain ⟨kd, h1, h2, -⟩ := kd_of (op := op) 40 14 (by decide) c1 (Int32.lt_of_le_of_lt (Int32.not_lt.mp c2) (by decide))
      exact pg_zret hC.1 hw (by decide) (⟨Or.inl ⟨rfl, kd, h1, h2⟩, rfl⟩) d_D_isWhole_41
set_option maxHeartbeats 4000000 in
set_option maxRecDepth 100000 in
theorem c_D_isWhole_st (l : Launch) (D : va_G) (kc : Nat → ClassId) (L : List Nat) (f : Nat → va_E) (sz : Nat) (op : Int32) : Met l y_D_isWhole w_D_isWhole ({ frames := 0, cells := 0, slots := 0, locals := 0 }) (PP D kc L f sz [.int op, .int 1]) (Qi D L f sz (fun r u => ((r = 1 ∧ ∃ kd, kd < 9 ∧ op = nI (54 + kd)) ∨ (r = 0 ∧ ¬ (∃ kd, kd < 9 ∧ op = nI (54 + kd)))) ∧ u = (L, f))) 0 0 (pA L f sz) := by
  refine kx_met (by decide) (Nat.le_of_ble_eq_true rfl) ?_
  intro p e s m below meth c hC hnm hw hsz ls hl
  subst hsz
  have hl : lv_has ls 2 [(0, .int op), (1, .int 1)] := hl
  obtain ⟨⟨⟨hx, hb, hml, hown, hts⟩, hret9, hlocks⟩, hK, hE, hA⟩ := id hC
  refine lv_iload_n hx hb d_D_isWhole_0 rfl (lv_at hl 1 rfl) ?_
  refine lv_if_eq (tgt := 24) hx hb d_D_isWhole_1 (by decide) (fun c0 => ((by decide : ¬ (1 : Int32) = 0) c0).elim) (fun c0 => ?_)
  refine lv_iload_n hx hb d_D_isWhole_4 rfl (lv_at hl 0 rfl) ?_
  refine lv_bipush (v := 54) hx hb d_D_isWhole_5 (by decide) ?_
  refine lv_icmp_lt (tgt := 20) hx hb d_D_isWhole_7 (by decide) (fun c1 => ?_) (fun c1 => ?_)
  · refine lv_iconst (v := 0) hx hb d_D_isWhole_20 (by decide) ?_
    refine lv_goto (tgt := 41) hx hb d_D_isWhole_21 (by decide) ?_
    exact pg_zret hC.1 hw (by decide) (⟨Or.inr ⟨rfl, fun h => by obtain ⟨kd, h1, rfl⟩ := h; exact nI_nlt (a := 54 + kd) (b := 54) (by omega) (by omega) c1⟩, rfl⟩) d_D_isWhole_41
  · refine lv_iload_n hx hb d_D_isWhole_10 rfl (lv_at hl 0 rfl) ?_
    refine lv_bipush (v := 62) hx hb d_D_isWhole_11 (by decide) ?_
    refine lv_icmp_gt (tgt := 20) hx hb d_D_isWhole_13 (by decide) (fun c2 => ?_) (fun c2 => ?_)
    · refine lv_iconst (v := 0) hx hb d_D_isWhole_20 (by decide) ?_
      refine lv_goto (tgt := 41) hx hb d_D_isWhole_21 (by decide) ?_
      exact pg_zret hC.1 hw (by decide) (⟨Or.inr ⟨rfl, fun h => by obtain ⟨kd, h1, rfl⟩ := h; exact nI_nlt (a := 62) (b := 54 + kd) (by omega) (by omega) c2⟩, rfl⟩) d_D_isWhole_41
    · refine lv_iconst (v := 1) hx hb d_D_isWhole_16 (by decide) ?_
      refine lv_goto (tgt := 41) hx hb d_D_isWhole_17 (by decide) ?_
      obtain ⟨kd, h1, h2, -⟩ := kd_of (op := op) 54 9 (by decide) c1 (Int32.lt_of_le_of_lt (Int32.not_lt.mp c2) (by decide))
      exact pg_zret hC.1 hw (by decide) (⟨Or.inl ⟨rfl, kd, h1, h2⟩, rfl⟩) d_D_isWhole_41
set_option maxHeartbeats 4000000 in
set_option maxRecDepth 100000 in
theorem c_D_place (l : Launch) (D : va_G) (kc : Nat → ClassId) (L : List Nat) (f : Nat → va_E) (sz : Nat) (ad of : Int32) : Met l y_D_place w_D_place ({ frames := 0, cells := 0, slots := 0, locals := 0 }) (PP D kc L f sz [.int ad, .int of]) (Ql D L f sz (fun r u => r = lN (uI ad + uI of) ∧ u = (L, f))) 0 0 (pA L f sz) := by
  refine kx_met (by decide) (Nat.le_of_ble_eq_true rfl) ?_
  intro p e s m below meth c hC hnm hw hsz ls hl
  subst hsz
  have hl : lv_has ls 2 [(0, .int ad), (1, .int of)] := hl
  obtain ⟨⟨⟨hx, hb, hml, hown, hts⟩, hret9, hlocks⟩, hK, hE, hA⟩ := id hC
  refine lv_iload_n hx hb d_D_place_0 rfl (lv_at hl 0 rfl) ?_
  refine lv_i2l hx hb d_D_place_1 rfl ?_
  refine lv_ldc2 (v := 4294967295) hx hb hown (hts _ (gg_mem k_cn_D_63)) d_D_place_2 ?_
  refine lv_land hx hb d_D_place_5 ?_
  refine tp_l (v := lN (uI ad)) (uI_and ad) ?_
  refine lv_iload_n hx hb d_D_place_6 rfl (lv_at hl 1 rfl) ?_
  refine lv_i2l hx hb d_D_place_7 rfl ?_
  refine lv_ldc2 (v := 4294967295) hx hb hown (hts _ (gg_mem k_cn_D_63)) d_D_place_8 ?_
  refine lv_land hx hb d_D_place_11 ?_
  refine tp_l (v := lN (uI of)) (uI_and of) ?_
  refine lv_ladd hx hb d_D_place_12 ?_
  refine tp_l (v := lN (uI ad + uI of)) (lN_add _ _) ?_
  exact pg_lret hC.1 hw (⟨rfl, rfl⟩) d_D_place_13
set_option maxHeartbeats 4000000 in
set_option maxRecDepth 100000 in
theorem c_D_isThere (l : Launch) (D : va_G) (kc : Nat → ClassId) (L : List Nat) (f : Nat → va_E) (sz : Nat) (d mst ow ix bb cpy : Nat) (gb : Nat → Option Nat) (hm9 ho9 hi9 hc9 : Nat → Int32) (tg : Nat → Nat × Nat) (th : Int32) (nm : Nat) (mo : Nat → Int32) (om : Nat → Nat) (al : Nat) (bs : Nat → Nat → Nat) (hg : modG kc L f tg d mst ow ix bb cpy gb hm9 ho9 hi9 hc9 th nm mo om al bs) (hs : stOK nm mo om al bs) (k : Nat) (hk : k < nm) (pl : Int64) (nb : Nat) (hnb : nb ≤ 65536) : Met l y_D_isThere w_D_isThere ({ frames := 1, cells := 0, slots := 0, locals := 23 }) (PP D kc L f sz [.ref d, .int (nI k), .long pl, .int (nI nb)]) (Qi D L f sz (fun r u => ((r = 1 ∧ thereP pl nb (cnt om al k)) ∨ (r = 0 ∧ ¬ thereP pl nb (cnt om al k))) ∧ u = (L, f))) 0 0 (pA L f sz) := by
  refine kx_met (by decide) (Nat.le_of_ble_eq_true rfl) ?_
  intro p e s m below meth c hC hnm hw hsz ls hl
  subst hsz
  have hl : lv_has ls 5 [(0, .ref d), (1, .int (nI k)), (2, .long pl), (4, .int (nI nb))] := hl
  obtain ⟨⟨⟨hx, hb, hml, hown, hts⟩, hret9, hlocks⟩, hK, hE, hA⟩ := id hC
  obtain ⟨⟨hdL, htd, hfd⟩, ⟨hmL, htm, hfm⟩, ⟨hoL, hto, hfo⟩, ⟨hiL, hti, hfi⟩, ⟨hbL, htb, hfb⟩, ⟨hcL, htc, hfc⟩, hk1, hk2, hk3⟩ := id hg
  obtain ⟨hs1, hs2, hs3, hs4, hs5, hs6⟩ := id hs
  have hcl := cnt_le om k al
  refine lv_iload hx hb d_D_isThere_0 (lv_at hl 3 rfl) ?_
  refine lv_if_eq (tgt := 30) hx hb d_D_isThere_2 (by decide) (fun c1 => ?_) (fun c1 => ?_)
  · refine lv_iconst (v := 1) hx hb d_D_isThere_30 (by decide) ?_
    refine lv_goto (tgt := 35) hx hb d_D_isThere_31 (by decide) ?_
    exact pg_zret hC.1 hw (by decide) (⟨Or.inl ⟨rfl, Or.inl (nI_inj hnb (by decide) c1)⟩, rfl⟩) d_D_isThere_35
  · have hnz : nb ≠ 0 := fun e => c1 (by rw [e]; rfl)
    refine lv_lload_n hx hb d_D_isThere_5 rfl (lv_at hl 2 rfl) ?_
    refine lv_lconst (v := 0) hx hb d_D_isThere_6 (by decide) ?_
    refine W.lcmp hx hb d_D_isThere_7 ?_
    refine lv_if_lt (tgt := 34) hx hb d_D_isThere_8 (by decide) (fun c2 => ?_) (fun c2 => ?_)
    · refine lv_iconst (v := 0) hx hb d_D_isThere_34 (by decide) ?_
      exact pg_zret hC.1 hw (by decide) (⟨Or.inr ⟨rfl, fun h => h.elim hnz (fun q => q.1 ((lg_cmp_lt _ _).mp c2))⟩, rfl⟩) d_D_isThere_35
    · refine lv_lload_n hx hb d_D_isThere_11 rfl (lv_at hl 2 rfl) ?_
      refine lv_iload hx hb d_D_isThere_12 (lv_at hl 3 rfl) ?_
      refine lv_i2l hx hb d_D_isThere_14 rfl ?_
      refine tp_l (v := lN nb) (nI_toI64 _ (by omega)) ?_
      refine lv_ladd hx hb d_D_isThere_15 ?_
      refine lv_ldc2 (v := 65536) hx hb hown (hts _ (gg_mem k_cn_D_38)) d_D_isThere_16 ?_
      refine lv_aload_n hx hb d_D_isThere_19 rfl (lv_at hl 0 rfl) ?_
      refine lv_iload_n hx hb d_D_isThere_20 rfl (lv_at hl 1 rfl) ?_
      refine callVi (As := [.int (nI k)]) (n9 := 1) hC hw (c_D_count l D kc _ _ _ d mst ow ix bb cpy gb hm9 ho9 hi9 hc9 tg th nm mo om al bs hg hs k hk) k_co_D_count k_ml_D_55 k_im_D_count k_se_D_count k_in_D rfl rfl (by decide +kernel) rfl ⟨Nat.le_of_ble_eq_true rfl, Nat.le_of_ble_eq_true rfl⟩ hdL hfd rfl hl.1 rfl (Nat.le_of_ble_eq_true rfl) d_D_isThere_21 ⟨Nat.le_of_ble_eq_true rfl, Nat.le_of_ble_eq_true rfl⟩ (fun r9 u H locs hp hw => ?_)
      obtain ⟨rfl, rfl⟩ := hp
      refine lv_i2l hx hb d_D_isThere_24 rfl ?_
      refine tp_l (v := lN (cnt om al k)) (nI_toI64 _ (by omega)) ?_
      refine lv_lmul hx hb d_D_isThere_25 ?_
      refine tp_l (v := lN (65536 * cnt om al k)) (lN_mul 65536 _) ?_
      refine W.lcmp hx hb d_D_isThere_26 ?_
      refine lv_if_gt (tgt := 34) hx hb d_D_isThere_27 (by decide) (fun c3 => ?_) (fun c3 => ?_)
      · refine lv_iconst (v := 0) hx hb d_D_isThere_34 (by decide) ?_
        exact pg_zret hC.1 hw (by decide) (⟨Or.inr ⟨rfl, fun h => h.elim hnz (fun q => Int64.not_lt.mpr q.2 ((lg_cmp_gt _ _).mp c3))⟩, rfl⟩) d_D_isThere_35
      · refine lv_iconst (v := 1) hx hb d_D_isThere_30 (by decide) ?_
        refine lv_goto (tgt := 35) hx hb d_D_isThere_31 (by decide) ?_
        exact pg_zret hC.1 hw (by decide) (⟨Or.inl ⟨rfl, Or.inr ⟨fun q => c2 ((lg_cmp_lt _ _).mpr q), Int64.not_lt.mp (fun q => c3 ((lg_cmp_gt _ _).mpr q))⟩⟩, rfl⟩) d_D_isThere_35
set_option maxHeartbeats 4000000 in
set_option maxRecDepth 100000 in
theorem c_D_pages (l : Launch) (D : va_G) (kc : Nat → ClassId) (L : List Nat) (f : Nat → va_E) (sz : Nat) (d mst ow ix bb cpy : Nat) (gb : Nat → Option Nat) (hm9 ho9 hi9 hc9 : Nat → Int32) (tg : Nat → Nat × Nat) (th : Int32) (nm : Nat) (mo : Nat → Int32) (om : Nat → Nat) (al : Nat) (bs : Nat → Nat → Nat) (hg : modG kc L f tg d mst ow ix bb cpy gb hm9 ho9 hi9 hc9 th nm mo om al bs) (hs : stOK nm mo om al bs) (mm : Int32) : Met l y_D_pages w_D_pages ({ frames := 1, cells := 0, slots := 0, locals := 23 }) (PP D kc L f sz [.ref d, .int mm]) (Qi D L f sz (fun r u => ∃ t9 tg', modP kc u.1 u.2 tg' d t9 nm mo om al bs ∧ Ext SD L f tg u tg' ∧ ((t9 = 0 ∧ ∃ k, k < nm ∧ mm = nI k ∧ r = nI (cnt om al k)) ∨ (t9 = 1 ∧ ¬ (∃ k, k < nm ∧ mm = nI k))))) 0 0 (pA L f sz) := by
  refine kx_met (by decide) (Nat.le_of_ble_eq_true rfl) ?_
  intro p e s m below meth c hC hnm hw hsz ls hl
  subst hsz
  have hl : lv_has ls 2 [(0, .ref d), (1, .int mm)] := hl
  obtain ⟨⟨⟨hx, hb, hml, hown, hts⟩, hret9, hlocks⟩, hK, hE, hA⟩ := id hC
  obtain ⟨⟨hdL, htd, hfd⟩, ⟨hmL, htm, hfm⟩, ⟨hoL, hto, hfo⟩, ⟨hiL, hti, hfi⟩, ⟨hbL, htb, hfb⟩, ⟨hcL, htc, hfc⟩, hk1, hk2, hk3⟩ := id hg
  obtain ⟨hs1, hs2, hs3, hs4, hs5, hs6⟩ := id hs
  refine lv_aload_n hx hb d_D_pages_0 rfl (lv_at hl 0 rfl) ?_
  refine lv_aload_n hx hb d_D_pages_1 rfl (lv_at hl 0 rfl) ?_
  refine lv_iload_n hx hb d_D_pages_2 rfl (lv_at hl 1 rfl) ?_
  refine callVi (As := [.int mm]) (n9 := 1) hC hw (c_D_isMemory l D kc _ _ _ d mst ow ix bb cpy gb hm9 ho9 hi9 hc9 tg th nm mo om al bs hg hs mm) k_co_D_isMemory k_ml_D_51 k_im_D_isMemory k_se_D_isMemory k_in_D rfl rfl (by decide +kernel) rfl ⟨Nat.le_of_ble_eq_true rfl, Nat.le_of_ble_eq_true rfl⟩ hdL hfd rfl hl.1 rfl (Nat.le_of_ble_eq_true rfl) d_D_pages_3 ⟨Nat.le_of_ble_eq_true rfl, Nat.le_of_ble_eq_true rfl⟩ (fun r9 u H locs hp hw => ?_)
  obtain ⟨hp, rfl⟩ := hp
  rcases hp with ⟨rfl, k, hkn, rfl⟩ | ⟨rfl, hno⟩
  · refine lv_if_eq (tgt := 13) hx hb d_D_pages_6 (by decide) (fun c0 => ((by decide : ¬ (1 : Int32) = 0) c0).elim) (fun c0 => ?_)
    refine lv_iconst (v := 0) hx hb d_D_pages_9 (by decide) ?_
    refine lv_goto (tgt := 14) hx hb d_D_pages_10 (by decide) ?_
    refine put_D hC hw hdL hfd 0 (by decide) k_fl_D_28 rfl rfl rfl (Nat.le_of_ble_eq_true rfl) d_D_pages_14 (fun H locs hw => ?_)
    obtain ⟨f1, hf1⟩ : ∃ F, F = va_up f d (.inr (3, [.int 0, .int (nI nm), .ref mst, .int (nI al), .ref ow, .ref ix, .ref bb, .ref cpy])) := ⟨_, rfl⟩
    have hw := pw_as (f' := f1) hw rfl hf1.symm
    obtain ⟨hg1, he1⟩ := mod_th hg 0
    rw [← hf1] at hg1 he1
    obtain ⟨⟨hdL1, htd1, hfd1⟩, ⟨hmL1, htm1, hfm1⟩, ⟨hoL1, hto1, hfo1⟩, ⟨hiL1, hti1, hfi1⟩, ⟨hbL1, htb1, hfb1⟩, ⟨hcL1, htc1, hfc1⟩, hk11, hk21, hk31⟩ := id hg1
    refine lv_aload_n hx hb d_D_pages_17 rfl (lv_at hl 0 rfl) ?_
    refine get_D hC hw hdL1 hfd1 0 (by decide) k_fl_D_28 rfl d_D_pages_18 ?_
    refine lv_if_le (tgt := 28) hx hb d_D_pages_21 (by decide) (fun c1 => ?_) (fun c1 => (c1 (by decide)).elim)
    refine lv_aload_n hx hb d_D_pages_28 rfl (lv_at hl 0 rfl) ?_
    refine lv_iload_n hx hb d_D_pages_29 rfl (lv_at hl 1 rfl) ?_
    refine callVi (As := [.int (nI k)]) (n9 := 1) hC hw (c_D_count l D kc _ _ _ d mst ow ix bb cpy gb hm9 ho9 hi9 hc9 tg 0 nm mo om al bs hg1 hs k hkn) k_co_D_count k_ml_D_55 k_im_D_count k_se_D_count k_in_D rfl rfl (by decide +kernel) rfl ⟨Nat.le_of_ble_eq_true rfl, Nat.le_of_ble_eq_true rfl⟩ hdL1 hfd1 rfl hl.1 rfl (Nat.le_of_ble_eq_true rfl) d_D_pages_30 ⟨Nat.le_of_ble_eq_true rfl, Nat.le_of_ble_eq_true rfl⟩ (fun r9 u H locs hp hw => ?_)
    obtain ⟨rfl, rfl⟩ := hp
    exact pg_iret hC.1 hw (⟨0, tg, ⟨mst, ow, ix, bb, cpy, gb, hm9, ho9, hi9, hc9, hg1⟩, he1, Or.inl ⟨rfl, k, hkn, rfl, rfl⟩⟩) d_D_pages_33
  · refine lv_if_eq (tgt := 13) hx hb d_D_pages_6 (by decide) (fun c0 => ?_) (fun c0 => (c0 rfl).elim)
    refine lv_iconst (v := 1) hx hb d_D_pages_13 (by decide) ?_
    refine put_D hC hw hdL hfd 0 (by decide) k_fl_D_28 rfl rfl rfl (Nat.le_of_ble_eq_true rfl) d_D_pages_14 (fun H locs hw => ?_)
    obtain ⟨f1, hf1⟩ : ∃ F, F = va_up f d (.inr (3, [.int 1, .int (nI nm), .ref mst, .int (nI al), .ref ow, .ref ix, .ref bb, .ref cpy])) := ⟨_, rfl⟩
    have hw := pw_as (f' := f1) hw rfl hf1.symm
    obtain ⟨hg1, he1⟩ := mod_th hg 1
    rw [← hf1] at hg1 he1
    obtain ⟨⟨hdL1, htd1, hfd1⟩, ⟨hmL1, htm1, hfm1⟩, ⟨hoL1, hto1, hfo1⟩, ⟨hiL1, hti1, hfi1⟩, ⟨hbL1, htb1, hfb1⟩, ⟨hcL1, htc1, hfc1⟩, hk11, hk21, hk31⟩ := id hg1
    refine lv_aload_n hx hb d_D_pages_17 rfl (lv_at hl 0 rfl) ?_
    refine get_D hC hw hdL1 hfd1 0 (by decide) k_fl_D_28 rfl d_D_pages_18 ?_
    refine lv_if_le (tgt := 28) hx hb d_D_pages_21 (by decide) (fun c1 => ((by decide : ¬ (1 : Int32) ≤ 0) c1).elim) (fun c1 => ?_)
    refine lv_iconst (v := 0) hx hb d_D_pages_24 (by decide) ?_
    refine lv_goto (tgt := 33) hx hb d_D_pages_25 (by decide) ?_
    exact pg_iret hC.1 hw (⟨1, tg, ⟨mst, ow, ix, bb, cpy, gb, hm9, ho9, hi9, hc9, hg1⟩, he1, Or.inr ⟨rfl, hno⟩⟩) d_D_pages_33
set_option maxHeartbeats 4000000 in
set_option maxRecDepth 100000 in
theorem c_D_fits (l : Launch) (D : va_G) (kc : Nat → ClassId) (L : List Nat) (f : Nat → va_E) (sz : Nat) (d mst ow ix bb cpy : Nat) (gb : Nat → Option Nat) (hm9 ho9 hi9 hc9 : Nat → Int32) (tg : Nat → Nat × Nat) (th : Int32) (nm : Nat) (mo : Nat → Int32) (om : Nat → Nat) (al : Nat) (bs : Nat → Nat → Nat) (hg : modG kc L f tg d mst ow ix bb cpy gb hm9 ho9 hi9 hc9 th nm mo om al bs) (hs : stOK nm mo om al bs) (mm least most : Int32) : Met l y_D_fits w_D_fits ({ frames := 1, cells := 0, slots := 0, locals := 23 }) (PP D kc L f sz [.ref d, .int mm, .int least, .int most]) (Qi D L f sz (fun r u => ∃ t9 tg', modP kc u.1 u.2 tg' d t9 nm mo om al bs ∧ Ext SD L f tg u tg' ∧ ((t9 = 0 ∧ ∃ k, k < nm ∧ mm = nI k ∧ r = fitV (nI (cnt om al k)) (mo k) least most) ∨ (t9 = 1 ∧ ¬ (∃ k, k < nm ∧ mm = nI k))))) 0 0 (pA L f sz) := by
  refine kx_met (by decide) (Nat.le_of_ble_eq_true rfl) ?_
  intro p e s m below meth c hC hnm hw hsz ls hl
  subst hsz
  have hl : lv_has ls 4 [(0, .ref d), (1, .int mm), (2, .int least), (3, .int most)] := hl
  obtain ⟨⟨⟨hx, hb, hml, hown, hts⟩, hret9, hlocks⟩, hK, hE, hA⟩ := id hC
  obtain ⟨⟨hdL, htd, hfd⟩, ⟨hmL, htm, hfm⟩, ⟨hoL, hto, hfo⟩, ⟨hiL, hti, hfi⟩, ⟨hbL, htb, hfb⟩, ⟨hcL, htc, hfc⟩, hk1, hk2, hk3⟩ := id hg
  obtain ⟨hs1, hs2, hs3, hs4, hs5, hs6⟩ := id hs
  refine lv_aload_n hx hb d_D_fits_0 rfl (lv_at hl 0 rfl) ?_
  refine lv_aload_n hx hb d_D_fits_1 rfl (lv_at hl 0 rfl) ?_
  refine lv_iload_n hx hb d_D_fits_2 rfl (lv_at hl 1 rfl) ?_
  refine callVi (As := [.int mm]) (n9 := 1) hC hw (c_D_isMemory l D kc _ _ _ d mst ow ix bb cpy gb hm9 ho9 hi9 hc9 tg th nm mo om al bs hg hs mm) k_co_D_isMemory k_ml_D_51 k_im_D_isMemory k_se_D_isMemory k_in_D rfl rfl (by decide +kernel) rfl ⟨Nat.le_of_ble_eq_true rfl, Nat.le_of_ble_eq_true rfl⟩ hdL hfd rfl hl.1 rfl (Nat.le_of_ble_eq_true rfl) d_D_fits_3 ⟨Nat.le_of_ble_eq_true rfl, Nat.le_of_ble_eq_true rfl⟩ (fun r9 u H locs hp hw => ?_)
  obtain ⟨hp, rfl⟩ := hp
  rcases hp with ⟨rfl, k, hkn, rfl⟩ | ⟨rfl, hno⟩
  · refine lv_if_eq (tgt := 13) hx hb d_D_fits_6 (by decide) (fun c0 => ((by decide : ¬ (1 : Int32) = 0) c0).elim) (fun c0 => ?_)
    refine lv_iconst (v := 0) hx hb d_D_fits_9 (by decide) ?_
    refine lv_goto (tgt := 14) hx hb d_D_fits_10 (by decide) ?_
    refine put_D hC hw hdL hfd 0 (by decide) k_fl_D_28 rfl rfl rfl (Nat.le_of_ble_eq_true rfl) d_D_fits_14 (fun H locs hw => ?_)
    obtain ⟨f1, hf1⟩ : ∃ F, F = va_up f d (.inr (3, [.int 0, .int (nI nm), .ref mst, .int (nI al), .ref ow, .ref ix, .ref bb, .ref cpy])) := ⟨_, rfl⟩
    have hw := pw_as (f' := f1) hw rfl hf1.symm
    obtain ⟨hg1, he1⟩ := mod_th hg 0
    rw [← hf1] at hg1 he1
    obtain ⟨⟨hdL1, htd1, hfd1⟩, ⟨hmL1, htm1, hfm1⟩, ⟨hoL1, hto1, hfo1⟩, ⟨hiL1, hti1, hfi1⟩, ⟨hbL1, htb1, hfb1⟩, ⟨hcL1, htc1, hfc1⟩, hk11, hk21, hk31⟩ := id hg1
    refine lv_aload_n hx hb d_D_fits_17 rfl (lv_at hl 0 rfl) ?_
    refine get_D hC hw hdL1 hfd1 0 (by decide) k_fl_D_28 rfl d_D_fits_18 ?_
    refine lv_if_ne (tgt := 62) hx hb d_D_fits_21 (by decide) (fun c1 => (c1 rfl).elim) (fun c1 => ?_)
    refine lv_aload_n hx hb d_D_fits_24 rfl (lv_at hl 0 rfl) ?_
    refine lv_iload_n hx hb d_D_fits_25 rfl (lv_at hl 1 rfl) ?_
    refine callVi (As := [.int (nI k)]) (n9 := 1) hC hw (c_D_count l D kc _ _ _ d mst ow ix bb cpy gb hm9 ho9 hi9 hc9 tg 0 nm mo om al bs hg1 hs k hkn) k_co_D_count k_ml_D_55 k_im_D_count k_se_D_count k_in_D rfl rfl (by decide +kernel) rfl ⟨Nat.le_of_ble_eq_true rfl, Nat.le_of_ble_eq_true rfl⟩ hdL1 hfd1 rfl hl.1 rfl (Nat.le_of_ble_eq_true rfl) d_D_fits_26 ⟨Nat.le_of_ble_eq_true rfl, Nat.le_of_ble_eq_true rfl⟩ (fun r9 u H locs hp hw => ?_)
    obtain ⟨rfl, rfl⟩ := hp
    refine lv_iload_n hx hb d_D_fits_29 rfl (lv_at hl 2 rfl) ?_
    refine lv_icmp_lt (tgt := 62) hx hb d_D_fits_30 (by decide) (fun c2 => ?_) (fun c2 => ?_)
    · refine lv_iconst (v := 0) hx hb d_D_fits_62 (by decide) ?_
      exact pg_zret hC.1 hw (by decide) (⟨0, tg, ⟨mst, ow, ix, bb, cpy, gb, hm9, ho9, hi9, hc9, hg1⟩, he1, Or.inl ⟨rfl, k, hkn, rfl, by unfold fitV; rw [if_neg (fun h => Int32.not_lt.mpr h.1 c2)]⟩⟩) d_D_fits_63
    · refine lv_iload_n hx hb d_D_fits_33 rfl (lv_at hl 3 rfl) ?_
      refine lv_iconst (v := (-1)) hx hb d_D_fits_34 (by decide) ?_
      refine lv_icmp_eq (tgt := 58) hx hb d_D_fits_35 (by decide) (fun c3 => ?_) (fun c3 => ?_)
      · refine lv_iconst (v := 1) hx hb d_D_fits_58 (by decide) ?_
        refine lv_goto (tgt := 63) hx hb d_D_fits_59 (by decide) ?_
        exact pg_zret hC.1 hw (by decide) (⟨0, tg, ⟨mst, ow, ix, bb, cpy, gb, hm9, ho9, hi9, hc9, hg1⟩, he1, Or.inl ⟨rfl, k, hkn, rfl, by unfold fitV; rw [if_pos ⟨Int32.not_lt.mp c2, Or.inl c3⟩]⟩⟩) d_D_fits_63
      · refine lv_aload_n hx hb d_D_fits_38 rfl (lv_at hl 0 rfl) ?_
        refine get_D hC hw hdL1 hfd1 2 (by decide) k_fl_D_9 rfl d_D_fits_39 ?_
        refine lv_iload_n hx hb d_D_fits_42 rfl (lv_at hl 1 rfl) ?_
        refine ald_I hC hw hmL1 hfm1 (by omega) (by decide) d_D_fits_43 ?_
        refine tp_i (v := mo k) (hk1 k hkn) ?_
        refine lv_iconst (v := (-1)) hx hb d_D_fits_44 (by decide) ?_
        refine lv_icmp_eq (tgt := 62) hx hb d_D_fits_45 (by decide) (fun c4 => ?_) (fun c4 => ?_)
        · refine lv_iconst (v := 0) hx hb d_D_fits_62 (by decide) ?_
          exact pg_zret hC.1 hw (by decide) (⟨0, tg, ⟨mst, ow, ix, bb, cpy, gb, hm9, ho9, hi9, hc9, hg1⟩, he1, Or.inl ⟨rfl, k, hkn, rfl, by unfold fitV; rw [if_neg (fun h => h.2.elim c3 (fun q => q.1 c4))]⟩⟩) d_D_fits_63
        · refine lv_aload_n hx hb d_D_fits_48 rfl (lv_at hl 0 rfl) ?_
          refine get_D hC hw hdL1 hfd1 2 (by decide) k_fl_D_9 rfl d_D_fits_49 ?_
          refine lv_iload_n hx hb d_D_fits_52 rfl (lv_at hl 1 rfl) ?_
          refine ald_I hC hw hmL1 hfm1 (by omega) (by decide) d_D_fits_53 ?_
          refine tp_i (v := mo k) (hk1 k hkn) ?_
          refine lv_iload_n hx hb d_D_fits_54 rfl (lv_at hl 3 rfl) ?_
          refine lv_icmp_gt (tgt := 62) hx hb d_D_fits_55 (by decide) (fun c5 => ?_) (fun c5 => ?_)
          · refine lv_iconst (v := 0) hx hb d_D_fits_62 (by decide) ?_
            exact pg_zret hC.1 hw (by decide) (⟨0, tg, ⟨mst, ow, ix, bb, cpy, gb, hm9, ho9, hi9, hc9, hg1⟩, he1, Or.inl ⟨rfl, k, hkn, rfl, by unfold fitV; rw [if_neg (fun h => h.2.elim c3 (fun q => Int32.not_lt.mpr q.2 c5))]⟩⟩) d_D_fits_63
          · refine lv_iconst (v := 1) hx hb d_D_fits_58 (by decide) ?_
            refine lv_goto (tgt := 63) hx hb d_D_fits_59 (by decide) ?_
            exact pg_zret hC.1 hw (by decide) (⟨0, tg, ⟨mst, ow, ix, bb, cpy, gb, hm9, ho9, hi9, hc9, hg1⟩, he1, Or.inl ⟨rfl, k, hkn, rfl, by unfold fitV; rw [if_pos ⟨Int32.not_lt.mp c2, Or.inr ⟨c4, Int32.not_lt.mp c5⟩⟩]⟩⟩) d_D_fits_63
  · refine lv_if_eq (tgt := 13) hx hb d_D_fits_6 (by decide) (fun c0 => ?_) (fun c0 => (c0 rfl).elim)
    refine lv_iconst (v := 1) hx hb d_D_fits_13 (by decide) ?_
    refine put_D hC hw hdL hfd 0 (by decide) k_fl_D_28 rfl rfl rfl (Nat.le_of_ble_eq_true rfl) d_D_fits_14 (fun H locs hw => ?_)
    obtain ⟨f1, hf1⟩ : ∃ F, F = va_up f d (.inr (3, [.int 1, .int (nI nm), .ref mst, .int (nI al), .ref ow, .ref ix, .ref bb, .ref cpy])) := ⟨_, rfl⟩
    have hw := pw_as (f' := f1) hw rfl hf1.symm
    obtain ⟨hg1, he1⟩ := mod_th hg 1
    rw [← hf1] at hg1 he1
    obtain ⟨⟨hdL1, htd1, hfd1⟩, ⟨hmL1, htm1, hfm1⟩, ⟨hoL1, hto1, hfo1⟩, ⟨hiL1, hti1, hfi1⟩, ⟨hbL1, htb1, hfb1⟩, ⟨hcL1, htc1, hfc1⟩, hk11, hk21, hk31⟩ := id hg1
    refine lv_aload_n hx hb d_D_fits_17 rfl (lv_at hl 0 rfl) ?_
    refine get_D hC hw hdL1 hfd1 0 (by decide) k_fl_D_28 rfl d_D_fits_18 ?_
    refine lv_if_ne (tgt := 62) hx hb d_D_fits_21 (by decide) (fun c1 => ?_) (fun c1 => ((by decide : ¬ (1 : Int32) = 0) c1).elim)
    refine lv_iconst (v := 0) hx hb d_D_fits_62 (by decide) ?_
    exact pg_zret hC.1 hw (by decide) (⟨1, tg, ⟨mst, ow, ix, bb, cpy, gb, hm9, ho9, hi9, hc9, hg1⟩, he1, Or.inr ⟨rfl, hno⟩⟩) d_D_fits_63
