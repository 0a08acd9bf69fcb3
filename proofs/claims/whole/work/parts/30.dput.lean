/-! The reference: put, add, its constructor -/
theorem mod_th {kc : Nat → ClassId} {L : List Nat} {f : Nat → va_E} {tg : Nat → Nat × Nat} {d mst ow ix bb cpy : Nat} {gb : Nat → Option Nat} {hm ho hi hc : Nat → Int32} {th : Int32} {n : Nat} {mo : Nat → Int32} {om : Nat → Nat} {al : Nat} {bs : Nat → Nat → Nat} (h : modG kc L f tg d mst ow ix bb cpy gb hm ho hi hc th n mo om al bs) (th' : Int32) :
    modG kc L (va_up f d (.inr (3, [.int th', .int (nI n), .ref mst, .int (nI al), .ref ow, .ref ix, .ref bb, .ref cpy]))) tg d mst ow ix bb cpy gb hm ho hi hc th' n mo om al bs ∧ Ext SD L f tg (L, va_up f d (.inr (3, [.int th', .int (nI n), .ref mst, .int (nI al), .ref ow, .ref ix, .ref bb, .ref cpy]))) tg := by
  obtain ⟨⟨a1, a2, a3⟩, ⟨b1, b2, b3⟩, ⟨c1, c2, c3⟩, ⟨d1, d2, d3⟩, ⟨e1, e2, e3⟩, ⟨g1, g2, g3⟩, k1, k2, k3⟩ := id h
  have ne : ∀ a, tg a ≠ (200, 0) → a ≠ d := fun a ha e => ha (e ▸ a2)
  exact mod_upd h (va_up_self _ _ _) (by rw [va_up_ne _ _ (ne _ (by rw [b2]; simp))]; exact b3) (by rw [va_up_ne _ _ (ne _ (by rw [c2]; simp))]; exact c3) (by rw [va_up_ne _ _ (ne _ (by rw [d2]; simp))]; exact d3) (by rw [va_up_ne _ _ (ne _ (by rw [g2]; simp))]; exact g3) (fun a _ h1 _ _ _ _ => va_up_ne _ _ h1) k1 k2 (fun _ _ _ _ => rfl)
set_option maxHeartbeats 4000000 in
set_option maxRecDepth 100000 in
theorem c_D_put_row (l : Launch) (D : va_G) (kc : Nat → ClassId) (L : List Nat) (f : Nat → va_E) (sz : Nat) (d mst ow ix bb cpy : Nat) (gb : Nat → Option Nat) (hm9 ho9 hi9 hc9 : Nat → Int32) (tg : Nat → Nat × Nat) (th : Int32) (nm : Nat) (mo : Nat → Int32) (om : Nat → Nat) (al : Nat) (bs : Nat → Nat → Nat) (hg : modG kc L f tg d mst ow ix bb cpy gb hm9 ho9 hi9 hc9 th nm mo om al bs) (hs : stOK nm mo om al bs) (k : Nat) (hk : k < nm) (pp : Nat) (hpp : pp < 65536 * cnt om al k) (v : Nat) (hv9 : v < 256) (hg0 : ∀ R, isRow om al k pp R → gb R ≠ none) : Met l y_D_put w_D_put ({ frames := 1, cells := 0, slots := 0, locals := 26 }) (PP D kc L f sz [.ref d, .int (nI k), .long (lN pp), .int (nI v)]) (Qv D L f sz (fun u => ∃ tg' gb', modG kc u.1 u.2 tg' d mst ow ix bb cpy gb' hm9 ho9 hi9 hc9 th nm mo om al (va_up bs k (va_up (bs k) pp v)) ∧ (∀ R, gb R ≠ none → gb' R ≠ none) ∧ (∀ R, isRow om al k pp R → gb' R ≠ none) ∧ Ext SD L f tg u tg')) 0 0 (pA L f sz) := by
  refine kx_met (by decide) (Nat.le_of_ble_eq_true rfl) ?_
  intro p e s m below meth c hC hnm hw hsz ls hl
  subst hsz
  have hl : lv_has ls 6 [(0, .ref d), (1, .int (nI k)), (2, .long (lN pp)), (4, .int (nI v))] := hl
  obtain ⟨⟨⟨hx, hb, hml, hown, hts⟩, hret9, hlocks⟩, hK, hE, hA⟩ := id hC
  obtain ⟨⟨hdL, htd, hfd⟩, ⟨hmL, htm, hfm⟩, ⟨hoL, hto, hfo⟩, ⟨hiL, hti, hfi⟩, ⟨hbL, htb, hfb⟩, ⟨hcL, htc, hfc⟩, hk1, hk2, hk3⟩ := id hg
  obtain ⟨hs1, hs2, hs3, hs4, hs5, hs6⟩ := id hs
  obtain ⟨sl, hsl1, hsl2, hsl3⟩ := sl_ex (om := om) (k := k) al (pp / 65536) (by omega)
  have hcl := cnt_le om k al
  refine lv_aload_n hx hb d_D_put_0 rfl (lv_at hl 0 rfl) ?_
  refine lv_iload_n hx hb d_D_put_1 rfl (lv_at hl 1 rfl) ?_
  refine lv_lload_n hx hb d_D_put_2 rfl (lv_at hl 2 rfl) ?_
  refine callVi (As := [.int (nI k), .long (lN pp)]) (n9 := 2) hC hw (c_D_rowOf l D kc _ _ _ d mst ow ix bb cpy gb hm9 ho9 hi9 hc9 tg th nm mo om al bs hg hs k hk pp sl (by omega) hsl1 hsl2 hsl3) k_co_D_rowOf k_ml_D_40 k_im_D_rowOf k_se_D_rowOf k_in_D rfl rfl (by decide +kernel) rfl ⟨Nat.le_of_ble_eq_true rfl, Nat.le_of_ble_eq_true rfl⟩ hdL hfd rfl hl.1 rfl (Nat.le_of_ble_eq_true rfl) d_D_put_3 ⟨Nat.le_of_ble_eq_true rfl, Nat.le_of_ble_eq_true rfl⟩ (fun r9 u H locs hp hw => ?_)
  obtain ⟨rfl, rfl⟩ := hp
  have hR : (64 * sl + pp % 65536 / 1024) < 1024 := by omega
  have hro : isRow om al k pp (64 * sl + pp % 65536 / 1024) := ⟨sl, hsl1, hsl2, hsl3, rfl⟩
  refine lv_istore (lv' := [(5, .int (nI (64 * sl + pp % 65536 / 1024))), (0, .ref d), (1, .int (nI k)), (2, .long (lN pp)), (4, .int (nI v))]) hx hb d_D_put_6 hl (by decide) rfl (fun ls hl => ?_)
  refine lv_aload_n hx hb d_D_put_8 rfl (lv_at hl 1 rfl) ?_
  refine get_D hC hw hdL hfd 6 (by decide) k_fl_D_21 rfl d_D_put_9 ?_
  refine lv_iload hx hb d_D_put_12 (lv_at hl 0 rfl) ?_
  refine ald_G hC hw hbL hfb (hR) (by decide) d_D_put_14 ?_
  obtain ⟨b9, hh, hg9, hb9, htb9, hfb9, hv⟩ : ∃ (b : Nat) (h : Nat → Int32), gb (64 * sl + pp % 65536 / 1024) = some b ∧ b ∈ L ∧ tg b = (200, 6 + (64 * sl + pp % 65536 / 1024)) ∧ f b = .inl (kc 0, 1024, .inl h) ∧ ∀ j, j < 1024 → h j = sb_b (md om al bs (64 * sl + pp % 65536 / 1024) j) := by
    rcases hk3 _ hR with ⟨hn, -⟩ | h
    · exact absurd hn (hg0 _ hro)
    · exact h
  refine tp_v (v := .ref b9) (by rw [hg9]; rfl) ?_
  refine lv_ifnonnull (tgt := 35) hx hb d_D_put_15 (by decide) ?_
  refine lv_aload_n hx hb d_D_put_35 rfl (lv_at hl 1 rfl) ?_
  refine get_D hC hw hdL hfd 6 (by decide) k_fl_D_21 rfl d_D_put_36 ?_
  refine lv_iload hx hb d_D_put_39 (lv_at hl 0 rfl) ?_
  refine ald_G hC hw hbL hfb (hR) (by decide) d_D_put_41 ?_
  refine tp_v (v := .ref b9) (by rw [hg9]; rfl) ?_
  refine lv_ifnull hx hb d_D_put_42 ?_
  refine lv_aload_n hx hb d_D_put_45 rfl (lv_at hl 1 rfl) ?_
  refine get_D hC hw hdL hfd 6 (by decide) k_fl_D_21 rfl d_D_put_46 ?_
  refine lv_iload hx hb d_D_put_49 (lv_at hl 0 rfl) ?_
  refine ald_G hC hw hbL hfb (hR) (by decide) d_D_put_51 ?_
  refine tp_v (v := .ref b9) (by rw [hg9]; rfl) ?_
  refine lv_lload_n hx hb d_D_put_52 rfl (lv_at hl 3 rfl) ?_
  refine lv_ldc2 (v := 1024) hx hb hown (hts _ (gg_mem k_cn_D_44)) d_D_put_53 ?_
  refine lv_lrem hx hb d_D_put_56 (by decide) ?_
  refine tp_l (v := lN (pp % 1024)) (pk_lRem (b := 1024) (by omega) (by decide) (by decide)) ?_
  refine lv_l2i hx hb d_D_put_57 rfl ?_
  refine tp_i (v := nI (pp % 1024)) (lN_i _) ?_
  refine lv_iload hx hb d_D_put_58 (lv_at hl 4 rfl) ?_
  refine lv_i2b hx hb d_D_put_60 rfl ?_
  refine ast_B hC hw hb9 hfb9 (y := sb_b v) (by exact pk_vb (nI v)) (show pp % 1024 < 1024 by omega) (by decide) d_D_put_61 (fun H locs hw => ?_)
  obtain ⟨hm2, he2⟩ := mod_put (v := v) hg hro hg9 hb9 htb9 hfb9 hv
  exact pg_vret hC.1 hw (⟨tg, gb, hm2, fun _ h => h, fun R h => by rw [isRow_un h hro rfl, hg9]; exact (fun z => Option.some_ne_none _ z), he2⟩) d_D_put_62
set_option maxHeartbeats 4000000 in
set_option maxRecDepth 100000 in
theorem c_D_put_zero (l : Launch) (D : va_G) (kc : Nat → ClassId) (L : List Nat) (f : Nat → va_E) (sz : Nat) (d mst ow ix bb cpy : Nat) (gb : Nat → Option Nat) (hm9 ho9 hi9 hc9 : Nat → Int32) (tg : Nat → Nat × Nat) (th : Int32) (nm : Nat) (mo : Nat → Int32) (om : Nat → Nat) (al : Nat) (bs : Nat → Nat → Nat) (hg : modG kc L f tg d mst ow ix bb cpy gb hm9 ho9 hi9 hc9 th nm mo om al bs) (hs : stOK nm mo om al bs) (k : Nat) (hk : k < nm) (pp : Nat) (hpp : pp < 65536 * cnt om al k) (hg0 : ∀ R, isRow om al k pp R → gb R = none) : Met l y_D_put w_D_put ({ frames := 1, cells := 0, slots := 0, locals := 26 }) (PP D kc L f sz [.ref d, .int (nI k), .long (lN pp), .int (nI 0)]) (Qv D L f sz (fun u => ∃ tg' gb', modG kc u.1 u.2 tg' d mst ow ix bb cpy gb' hm9 ho9 hi9 hc9 th nm mo om al (va_up bs k (va_up (bs k) pp 0)) ∧ (∀ R, gb R ≠ none → gb' R ≠ none) ∧ (True) ∧ Ext SD L f tg u tg')) 0 0 (pA L f sz) := by
  refine kx_met (by decide) (Nat.le_of_ble_eq_true rfl) ?_
  intro p e s m below meth c hC hnm hw hsz ls hl
  subst hsz
  have hl : lv_has ls 6 [(0, .ref d), (1, .int (nI k)), (2, .long (lN pp)), (4, .int (nI 0))] := hl
  obtain ⟨⟨⟨hx, hb, hml, hown, hts⟩, hret9, hlocks⟩, hK, hE, hA⟩ := id hC
  obtain ⟨⟨hdL, htd, hfd⟩, ⟨hmL, htm, hfm⟩, ⟨hoL, hto, hfo⟩, ⟨hiL, hti, hfi⟩, ⟨hbL, htb, hfb⟩, ⟨hcL, htc, hfc⟩, hk1, hk2, hk3⟩ := id hg
  obtain ⟨hs1, hs2, hs3, hs4, hs5, hs6⟩ := id hs
  obtain ⟨sl, hsl1, hsl2, hsl3⟩ := sl_ex (om := om) (k := k) al (pp / 65536) (by omega)
  have hcl := cnt_le om k al
  refine lv_aload_n hx hb d_D_put_0 rfl (lv_at hl 0 rfl) ?_
  refine lv_iload_n hx hb d_D_put_1 rfl (lv_at hl 1 rfl) ?_
  refine lv_lload_n hx hb d_D_put_2 rfl (lv_at hl 2 rfl) ?_
  refine callVi (As := [.int (nI k), .long (lN pp)]) (n9 := 2) hC hw (c_D_rowOf l D kc _ _ _ d mst ow ix bb cpy gb hm9 ho9 hi9 hc9 tg th nm mo om al bs hg hs k hk pp sl (by omega) hsl1 hsl2 hsl3) k_co_D_rowOf k_ml_D_40 k_im_D_rowOf k_se_D_rowOf k_in_D rfl rfl (by decide +kernel) rfl ⟨Nat.le_of_ble_eq_true rfl, Nat.le_of_ble_eq_true rfl⟩ hdL hfd rfl hl.1 rfl (Nat.le_of_ble_eq_true rfl) d_D_put_3 ⟨Nat.le_of_ble_eq_true rfl, Nat.le_of_ble_eq_true rfl⟩ (fun r9 u H locs hp hw => ?_)
  obtain ⟨rfl, rfl⟩ := hp
  have hR : (64 * sl + pp % 65536 / 1024) < 1024 := by omega
  have hro : isRow om al k pp (64 * sl + pp % 65536 / 1024) := ⟨sl, hsl1, hsl2, hsl3, rfl⟩
  refine lv_istore (lv' := [(5, .int (nI (64 * sl + pp % 65536 / 1024))), (0, .ref d), (1, .int (nI k)), (2, .long (lN pp)), (4, .int (nI 0))]) hx hb d_D_put_6 hl (by decide) rfl (fun ls hl => ?_)
  refine lv_aload_n hx hb d_D_put_8 rfl (lv_at hl 1 rfl) ?_
  refine get_D hC hw hdL hfd 6 (by decide) k_fl_D_21 rfl d_D_put_9 ?_
  refine lv_iload hx hb d_D_put_12 (lv_at hl 0 rfl) ?_
  refine ald_G hC hw hbL hfb (hR) (by decide) d_D_put_14 ?_
  have hg9 : gb (64 * sl + pp % 65536 / 1024) = none := hg0 _ hro
  refine tp_v (v := .null) (by rw [hg9]; rfl) ?_
  refine lv_ifnonnullN hx hb d_D_put_15 ?_
  refine lv_iload hx hb d_D_put_18 (lv_at hl 4 rfl) ?_
  refine lv_if_eq (tgt := 35) hx hb d_D_put_20 (by decide) (fun c1 => ?_) (fun c1 => (c1 rfl).elim)
  refine lv_aload_n hx hb d_D_put_35 rfl (lv_at hl 1 rfl) ?_
  refine get_D hC hw hdL hfd 6 (by decide) k_fl_D_21 rfl d_D_put_36 ?_
  refine lv_iload hx hb d_D_put_39 (lv_at hl 0 rfl) ?_
  refine ald_G hC hw hbL hfb (hR) (by decide) d_D_put_41 ?_
  refine tp_v (v := .null) (by rw [hg9]; rfl) ?_
  refine lv_ifnullN (tgt := 62) hx hb d_D_put_42 (by decide) ?_
  exact pg_vret hC.1 hw (⟨tg, gb, by rw [mod_zero hg hro hR hg9]; exact hg, fun _ h => h, trivial, Ext.rf⟩) d_D_put_62
set_option maxHeartbeats 4000000 in
set_option maxRecDepth 100000 in
theorem c_D_put_new (l : Launch) (D : va_G) (kc : Nat → ClassId) (L : List Nat) (f : Nat → va_E) (sz : Nat) (d mst ow ix bb cpy : Nat) (gb : Nat → Option Nat) (hm9 ho9 hi9 hc9 : Nat → Int32) (tg : Nat → Nat × Nat) (th : Int32) (nm : Nat) (mo : Nat → Int32) (om : Nat → Nat) (al : Nat) (bs : Nat → Nat → Nat) (hg : modG kc L f tg d mst ow ix bb cpy gb hm9 ho9 hi9 hc9 th nm mo om al bs) (hs : stOK nm mo om al bs) (k : Nat) (hk : k < nm) (pp : Nat) (hpp : pp < 65536 * cnt om al k) (v : Nat) (hv9 : v < 256) (hvp : 0 < v) (hg0 : ∀ R, isRow om al k pp R → gb R = none) : Met l y_D_put w_D_put ({ frames := 1, cells := 1, slots := 1024, locals := 26 }) (PP D kc L f sz [.ref d, .int (nI k), .long (lN pp), .int (nI v)]) (Qv D L f sz (fun u => ∃ tg' gb', modG kc u.1 u.2 tg' d mst ow ix bb cpy gb' hm9 ho9 hi9 hc9 th nm mo om al (va_up bs k (va_up (bs k) pp v)) ∧ (∀ R, gb R ≠ none → gb' R ≠ none) ∧ (∀ R, isRow om al k pp R → gb' R ≠ none) ∧ Ext SD L f tg u tg')) 1 1024 (pA L f sz) := by
  refine kx_met (by decide) (Nat.le_of_ble_eq_true rfl) ?_
  intro p e s m below meth c hC hnm hw hsz ls hl
  subst hsz
  have hl : lv_has ls 6 [(0, .ref d), (1, .int (nI k)), (2, .long (lN pp)), (4, .int (nI v))] := hl
  obtain ⟨⟨⟨hx, hb, hml, hown, hts⟩, hret9, hlocks⟩, hK, hE, hA⟩ := id hC
  obtain ⟨⟨hdL, htd, hfd⟩, ⟨hmL, htm, hfm⟩, ⟨hoL, hto, hfo⟩, ⟨hiL, hti, hfi⟩, ⟨hbL, htb, hfb⟩, ⟨hcL, htc, hfc⟩, hk1, hk2, hk3⟩ := id hg
  obtain ⟨hs1, hs2, hs3, hs4, hs5, hs6⟩ := id hs
  obtain ⟨sl, hsl1, hsl2, hsl3⟩ := sl_ex (om := om) (k := k) al (pp / 65536) (by omega)
  have hcl := cnt_le om k al
  refine lv_aload_n hx hb d_D_put_0 rfl (lv_at hl 0 rfl) ?_
  refine lv_iload_n hx hb d_D_put_1 rfl (lv_at hl 1 rfl) ?_
  refine lv_lload_n hx hb d_D_put_2 rfl (lv_at hl 2 rfl) ?_
  refine callVi (As := [.int (nI k), .long (lN pp)]) (n9 := 2) hC hw (c_D_rowOf l D kc _ _ _ d mst ow ix bb cpy gb hm9 ho9 hi9 hc9 tg th nm mo om al bs hg hs k hk pp sl (by omega) hsl1 hsl2 hsl3) k_co_D_rowOf k_ml_D_40 k_im_D_rowOf k_se_D_rowOf k_in_D rfl rfl (by decide +kernel) rfl ⟨Nat.le_of_ble_eq_true rfl, Nat.le_of_ble_eq_true rfl⟩ hdL hfd rfl hl.1 rfl (Nat.le_of_ble_eq_true rfl) d_D_put_3 ⟨Nat.le_of_ble_eq_true rfl, Nat.le_of_ble_eq_true rfl⟩ (fun r9 u H locs hp hw => ?_)
  obtain ⟨rfl, rfl⟩ := hp
  have hR : (64 * sl + pp % 65536 / 1024) < 1024 := by omega
  have hro : isRow om al k pp (64 * sl + pp % 65536 / 1024) := ⟨sl, hsl1, hsl2, hsl3, rfl⟩
  refine lv_istore (lv' := [(5, .int (nI (64 * sl + pp % 65536 / 1024))), (0, .ref d), (1, .int (nI k)), (2, .long (lN pp)), (4, .int (nI v))]) hx hb d_D_put_6 hl (by decide) rfl (fun ls hl => ?_)
  refine lv_aload_n hx hb d_D_put_8 rfl (lv_at hl 1 rfl) ?_
  refine get_D hC hw hdL hfd 6 (by decide) k_fl_D_21 rfl d_D_put_9 ?_
  refine lv_iload hx hb d_D_put_12 (lv_at hl 0 rfl) ?_
  refine ald_G hC hw hbL hfb (hR) (by decide) d_D_put_14 ?_
  have hg9 : gb (64 * sl + pp % 65536 / 1024) = none := hg0 _ hro
  refine tp_v (v := .null) (by rw [hg9]; rfl) ?_
  refine lv_ifnonnullN hx hb d_D_put_15 ?_
  refine lv_iload hx hb d_D_put_18 (lv_at hl 4 rfl) ?_
  refine lv_if_eq (tgt := 35) hx hb d_D_put_20 (by decide) (fun c1 => (nI_ne0 hvp (by omega) c1).elim) (fun c1 => ?_)
  refine lv_aload_n hx hb d_D_put_23 rfl (lv_at hl 1 rfl) ?_
  refine get_D hC hw hdL hfd 6 (by decide) k_fl_D_21 rfl d_D_put_24 ?_
  refine lv_iload hx hb d_D_put_27 (lv_at hl 0 rfl) ?_
  refine lv_sipush (v := 1024) hx hb d_D_put_29 (by decide) ?_
  refine tp_i (v := nI 1024) (rfl) ?_
  refine newB hC hw (gg_of (by decide +kernel) (by decide +kernel)) (by decide) (Nat.le_of_ble_eq_true rfl) (Nat.le_of_ble_eq_true rfl) d_D_put_32 (fun q H hq hw => ?_)
  have hbq : bb ≠ q := ne_in hbL hq
  refine ast_G hC hw (mem_l hbL) ((va_up_ne _ _ hbq).trans hfb) mem_r (va_up_self _ _ _) hR (by decide) d_D_put_34 (fun H locs hw => ?_)
  obtain ⟨f1, hf1⟩ : ∃ F, F = va_up (va_up f q (.inl (kc 0, 1024, .inl (fun _ => 0)))) bb (.inl (kc 4, 1024, .inr (.inr (.inr (.inr (va_up gb (64 * sl + pp % 65536 / 1024) (some q))))))) := ⟨_, rfl⟩
  have hw := pw_as (f' := f1) hw rfl hf1.symm
  have q1 : f1 q = .inl (kc 0, 1024, .inl (fun _ => 0)) := by rw [hf1, va_up_ne _ _ (Ne.symm hbq)]; exact va_up_self _ _ _
  have b1 : f1 bb = .inl (kc 4, 1024, .inr (.inr (.inr (.inr (va_up gb (64 * sl + pp % 65536 / 1024) (some q)))))) := by rw [hf1]; exact va_up_self _ _ _
  obtain ⟨tg1, hm1, he1, htq⟩ := mod_new (f' := f1) hg hR hg9 hq q1 b1 (fun a ha hne => by rw [hf1, va_up_ne _ _ hne, va_up_ne _ _ (ne_in ha hq)])
  obtain ⟨⟨hdL1, htd1, hfd1⟩, -, -, -, -, -, -, -, hk31⟩ := id hm1
  have hgq : va_up gb (64 * sl + pp % 65536 / 1024) (some q) (64 * sl + pp % 65536 / 1024) = some q := va_up_self _ _ _
  refine lv_aload_n hx hb d_D_put_35 rfl (lv_at hl 1 rfl) ?_
  refine get_D hC hw hdL1 hfd1 6 (by decide) k_fl_D_21 rfl d_D_put_36 ?_
  refine lv_iload hx hb d_D_put_39 (lv_at hl 0 rfl) ?_
  refine ald_G hC hw (mem_l hbL) b1 (hR) (by decide) d_D_put_41 ?_
  refine tp_v (v := .ref q) (by rw [hgq]; rfl) ?_
  refine lv_ifnull hx hb d_D_put_42 ?_
  refine lv_aload_n hx hb d_D_put_45 rfl (lv_at hl 1 rfl) ?_
  refine get_D hC hw hdL1 hfd1 6 (by decide) k_fl_D_21 rfl d_D_put_46 ?_
  refine lv_iload hx hb d_D_put_49 (lv_at hl 0 rfl) ?_
  refine ald_G hC hw (mem_l hbL) b1 (hR) (by decide) d_D_put_51 ?_
  refine tp_v (v := .ref q) (by rw [hgq]; rfl) ?_
  refine lv_lload_n hx hb d_D_put_52 rfl (lv_at hl 3 rfl) ?_
  refine lv_ldc2 (v := 1024) hx hb hown (hts _ (gg_mem k_cn_D_44)) d_D_put_53 ?_
  refine lv_lrem hx hb d_D_put_56 (by decide) ?_
  refine tp_l (v := lN (pp % 1024)) (pk_lRem (b := 1024) (by omega) (by decide) (by decide)) ?_
  refine lv_l2i hx hb d_D_put_57 rfl ?_
  refine tp_i (v := nI (pp % 1024)) (lN_i _) ?_
  refine lv_iload hx hb d_D_put_58 (lv_at hl 4 rfl) ?_
  refine lv_i2b hx hb d_D_put_60 rfl ?_
  refine ast_B hC hw mem_r q1 (y := sb_b v) (by exact pk_vb (nI v)) (show pp % 1024 < 1024 by omega) (by decide) d_D_put_61 (fun H locs hw => ?_)
  have hv1 : ∀ j, j < 1024 → (fun _ : Nat => (0 : Int32)) j = sb_b (md om al bs (64 * sl + pp % 65536 / 1024) j) := fun j hj => by
    rcases hk3 _ hR with ⟨-, z⟩ | ⟨b, hh, z, -⟩
    · rw [z j hj]; rfl
    · rw [hg9] at z; cases z
  obtain ⟨hm2, he2⟩ := mod_put (v := v) hm1 hro hgq mem_r htq q1 hv1
  refine W.widen (k := 1) (n := 1024) (by omega) (by omega) ?_
  have hkk : ∀ R, gb R ≠ none → va_up gb (64 * sl + pp % 65536 / 1024) (some q) R ≠ none := fun R h => by
    by_cases e : R = (64 * sl + pp % 65536 / 1024)
    · rw [e, hgq]; exact (fun z => Option.some_ne_none _ z)
    · rw [va_up_ne _ _ e]; exact h
  exact pg_vret hC.1 hw (⟨tg1, va_up gb (64 * sl + pp % 65536 / 1024) (some q), hm2, hkk, fun R h => by rw [isRow_un h hro rfl, hgq]; exact (fun z => Option.some_ne_none _ z), he1.tr he2⟩) d_D_put_62
set_option maxHeartbeats 4000000 in
set_option maxRecDepth 100000 in
theorem c_D_add (l : Launch) (D : va_G) (kc : Nat → ClassId) (L : List Nat) (f : Nat → va_E) (sz : Nat) (d mst ow ix bb cpy : Nat) (gb : Nat → Option Nat) (hm9 ho9 hi9 hc9 : Nat → Int32) (tg : Nat → Nat × Nat) (th : Int32) (nm : Nat) (mo : Nat → Int32) (om : Nat → Nat) (al : Nat) (bs : Nat → Nat → Nat) (hg : modG kc L f tg d mst ow ix bb cpy gb hm9 ho9 hi9 hc9 th nm mo om al bs) (k : Nat) (hal9 : al < 16) (hbz : ∀ j, 65536 * cnt om al k ≤ j → bs k j = 0) : Met l y_D_add w_D_add ({ frames := 0, cells := 0, slots := 0, locals := 0 }) (PP D kc L f sz [.ref d, .int (nI k), .int (nI (cnt om al k))]) (Qv D L f sz (fun u => ∃ ho2 hi2, (∃ f2, u = (L, f2)) ∧ modG kc u.1 u.2 tg d mst ow ix bb cpy gb hm9 ho2 hi2 hc9 th nm mo (appN om al k) (al + 1) bs ∧ Ext SD L f tg u tg)) 0 0 (pA L f sz) := by
  refine kx_met (by decide) (Nat.le_of_ble_eq_true rfl) ?_
  intro p e s m below meth c hC hnm hw hsz ls hl
  subst hsz
  have hl : lv_has ls 3 [(0, .ref d), (1, .int (nI k)), (2, .int (nI (cnt om al k)))] := hl
  obtain ⟨⟨⟨hx, hb, hml, hown, hts⟩, hret9, hlocks⟩, hK, hE, hA⟩ := id hC
  obtain ⟨⟨hdL, htd, hfd⟩, ⟨hmL, htm, hfm⟩, ⟨hoL, hto, hfo⟩, ⟨hiL, hti, hfi⟩, ⟨hbL, htb, hfb⟩, ⟨hcL, htc, hfc⟩, hk1, hk2, hk3⟩ := id hg
  refine lv_aload_n hx hb d_D_add_0 rfl (lv_at hl 0 rfl) ?_
  refine get_D hC hw hdL hfd 4 (by decide) k_fl_D_13 rfl d_D_add_1 ?_
  refine lv_aload_n hx hb d_D_add_4 rfl (lv_at hl 0 rfl) ?_
  refine get_D hC hw hdL hfd 3 (by decide) k_fl_D_35 rfl d_D_add_5 ?_
  refine lv_iload_n hx hb d_D_add_8 rfl (lv_at hl 1 rfl) ?_
  refine ast_I hC hw hoL hfo hal9 (by decide) d_D_add_9 (fun H locs hw => ?_)
  have n1 : d ≠ ow := fun e => by rw [e, hto] at htd; cases htd
  have n2 : ix ≠ ow := fun e => by rw [e, hto] at hti; cases hti
  have n3 : d ≠ ix := fun e => by rw [e, hti] at htd; cases htd
  obtain ⟨f1, hf1⟩ : ∃ F, F = va_up f ow (.inl (kc 3, 16, .inl (upd ho9 al (nI k)))) := ⟨_, rfl⟩
  have hw := pw_as (f' := f1) hw rfl hf1.symm
  have k1 : ∀ a, a ≠ ow → f1 a = f a := fun a h => by rw [hf1, va_up_ne _ _ h]
  refine lv_aload_n hx hb d_D_add_10 rfl (lv_at hl 0 rfl) ?_
  refine get_D hC hw hdL ((k1 d n1).trans hfd) 5 (by decide) k_fl_D_16 rfl d_D_add_11 ?_
  refine lv_aload_n hx hb d_D_add_14 rfl (lv_at hl 0 rfl) ?_
  refine get_D hC hw hdL ((k1 d n1).trans hfd) 3 (by decide) k_fl_D_35 rfl d_D_add_15 ?_
  refine lv_iload_n hx hb d_D_add_18 rfl (lv_at hl 2 rfl) ?_
  refine ast_I hC hw hiL ((k1 ix n2).trans hfi) hal9 (by decide) d_D_add_19 (fun H locs hw => ?_)
  obtain ⟨f2, hf2⟩ : ∃ F, F = va_up f1 ix (.inl (kc 3, 16, .inl (upd hi9 al (nI (cnt om al k))))) := ⟨_, rfl⟩
  have hw := pw_as (f' := f2) hw rfl hf2.symm
  have k2 : ∀ a, a ≠ ix → f2 a = f1 a := fun a h => by rw [hf2, va_up_ne _ _ h]
  refine lv_aload_n hx hb d_D_add_20 rfl (lv_at hl 0 rfl) ?_
  refine lv_dup hx hb d_D_add_21 rfl ?_
  refine get_D hC hw hdL ((k2 d n3).trans ((k1 d n1).trans hfd)) 3 (by decide) k_fl_D_35 rfl d_D_add_22 ?_
  refine lv_iconst (v := 1) hx hb d_D_add_25 (by decide) ?_
  refine lv_iadd hx hb d_D_add_26 ?_
  refine tp_i (v := nI (al + 1)) (nI_1 al) ?_
  refine put_D hC hw hdL ((k2 d n3).trans ((k1 d n1).trans hfd)) 3 (by decide) k_fl_D_35 rfl rfl rfl (Nat.le_of_ble_eq_true rfl) d_D_add_27 (fun H locs hw => ?_)
  obtain ⟨f3, hf3⟩ : ∃ F, F = va_up f2 d (.inr (3, [.int th, .int (nI nm), .ref mst, .int (nI (al + 1)), .ref ow, .ref ix, .ref bb, .ref cpy])) := ⟨_, rfl⟩
  have hw := pw_as (f' := f3) hw rfl hf3.symm
  have k3 : ∀ a, a ≠ d → f3 a = f2 a := fun a h => by rw [hf3, va_up_ne _ _ h]
  have n4 : mst ≠ d := fun e => by rw [e, htd] at htm; cases htm
  have n5 : mst ≠ ow := fun e => by rw [e, hto] at htm; cases htm
  have n6 : mst ≠ ix := fun e => by rw [e, hti] at htm; cases htm
  have n7 : cpy ≠ d := fun e => by rw [e, htd] at htc; cases htc
  have n8 : cpy ≠ ow := fun e => by rw [e, hto] at htc; cases htc
  have n9 : cpy ≠ ix := fun e => by rw [e, hti] at htc; cases htc
  obtain ⟨hm2, he2⟩ := mod_upd (f' := f3) (hm' := hm9) (ho' := upd ho9 al (nI k)) (hi' := upd hi9 al (nI (cnt om al k))) (hc' := hc9) (th' := th) (n' := nm) (mo' := mo) (om' := appN om al k) (al' := al + 1) (bs' := bs) hg (by rw [hf3, va_up_self]) (by rw [k3 _ n4, k2 _ n6, k1 _ n5]; exact hfm) (by rw [k3 _ (Ne.symm n1), k2 _ (Ne.symm n2), hf1, va_up_self]) (by rw [k3 _ (Ne.symm n3), hf2, va_up_self]) (by rw [k3 _ n7, k2 _ n9, k1 _ n8]; exact hfc) (fun a _ h0 _ h2 h3 _ => by rw [k3 _ h0, k2 _ h3, k1 _ h2]) hk1 (by
    intro j hj
    have hcc : ∀ i, i ≤ al → cnt (appN om al k) i = cnt om i := fun i hi => by funext m; exact cnt_congr m i (fun z hz => by unfold appN; rw [if_pos (by omega)])
    by_cases q : j = al
    · subst q
      have e1 : appN om j k j = k := by unfold appN; rw [if_neg (Nat.lt_irrefl _)]
      rw [pk_us, pk_us, e1, hcc j (Nat.le_refl _)]
      exact ⟨rfl, rfl⟩
    · have e1 : appN om al k j = om j := by unfold appN; rw [if_pos (by omega)]
      rw [pk_un q, pk_un q, e1, hcc j (by omega)]
      exact hk2 j (by omega)) (by
    intro R hR j hj
    unfold md
    by_cases q : R / 64 < al
    · have e1 : appN om al k (R / 64) = om (R / 64) := by unfold appN; rw [if_pos q]
      rw [if_pos q, if_pos (by omega), e1, cnt_congr (om' := om) _ _ (fun z hz => by unfold appN; rw [if_pos (by omega)])]
    · rw [if_neg q]
      by_cases q2 : R / 64 < al + 1
      · have e2 : R / 64 = al := by omega
        have e1 : appN om al k al = k := by unfold appN; rw [if_neg (Nat.lt_irrefl _)]
        rw [if_pos q2, e2, e1, cnt_congr (om' := om) k al (fun z hz => by unfold appN; rw [if_pos hz])]
        exact hbz _ (by omega)
      · rw [if_neg q2])
  exact pg_vret hC.1 hw (⟨_, _, ⟨f3, rfl⟩, hm2, he2⟩) d_D_add_30
