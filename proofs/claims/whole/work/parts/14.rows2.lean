/-! Row and Memory: rows and bytes -/
theorem ne_in {L : List Nat} {a q : Nat} (ha : a ∈ L) (hq : q ∉ L) : a ≠ q := fun e => hq (e ▸ ha)
theorem mem_l {L : List Nat} {a q : Nat} (ha : a ∈ L) : a ∈ L ++ [q] := List.mem_append_left _ ha
theorem pw_as {D : va_G} {cl : List vw_C} {A : Nat → Prop} {H0 H : Heap} {locs : List Loc} {L L' : List Nat} {f f' : Nat → va_E} (hw : pw D cl A H0 H locs L f) (e1 : L = L') (e2 : f = f') : pw D cl A H0 H locs L' f' := by subst e1; subst e2; exact hw
theorem mem_r {L : List Nat} {q : Nat} : q ∈ L ++ [q] := List.mem_append_right _ List.mem_cons_self
set_option maxHeartbeats 4000000 in
set_option maxRecDepth 100000 in
theorem c_M_rowOrNull (l : Launch) (D : va_G) (kc : Nat → ClassId) (L : List Nat) (f : Nat → va_E) (sz : Nat) (am ra : Nat) (mo : Int32) (pg N : Nat) (g : Nat → Option Nat) (ham : am ∈ L) (hem : f am = .inr (0, [.int mo, .int (nI pg), .ref ra])) (hra : ra ∈ L) (her : f ra = .inl (kc 2, N, .inr (.inr (.inr (.inr g))))) (hN : N ≤ 1024) (r : Nat) (hr : r < N) : Met l y_M_rowOrNull w_M_rowOrNull ({ frames := 0, cells := 0, slots := 0, locals := 0 }) (PP D kc L f sz [.ref am, .int (nI r)]) (Qq D L f sz (fun o u => o = g r ∧ u = (L, f))) 0 0 (pA L f sz) := by
  refine kx_met (by decide) (Nat.le_of_ble_eq_true rfl) ?_
  intro p e s m below meth c hC hnm hw hsz ls hl
  subst hsz
  have hl : lv_has ls 2 [(0, .ref am), (1, .int (nI r))] := hl
  obtain ⟨⟨⟨hx, hb, hml, hown, hts⟩, hret9, hlocks⟩, hK, hE, hA⟩ := id hC
  have h31 : r < 2 ^ 31 := by omega
  refine lv_iload_n hx hb d_M_rowOrNull_0 rfl (lv_at hl 1 rfl) ?_
  refine lv_if_lt (tgt := 13) hx hb d_M_rowOrNull_1 (by decide) (fun c1 => (nI_pos h31 c1).elim) (fun c1 => ?_)
  refine lv_iload_n hx hb d_M_rowOrNull_4 rfl (lv_at hl 1 rfl) ?_
  refine lv_aload_n hx hb d_M_rowOrNull_5 rfl (lv_at hl 0 rfl) ?_
  refine get_M hC hw ham hem 2 (by decide) k_fl_M_29 rfl d_M_rowOrNull_6 ?_
  refine len_R hC hw hra her d_M_rowOrNull_9 ?_
  refine lv_icmp_lt (tgt := 17) hx hb d_M_rowOrNull_10 (by decide) (fun c2 => ?_) (fun c2 => (c2 (nI_lt hr (by omega))).elim)
  refine lv_aload_n hx hb d_M_rowOrNull_17 rfl (lv_at hl 0 rfl) ?_
  refine get_M hC hw ham hem 2 (by decide) k_fl_M_29 rfl d_M_rowOrNull_18 ?_
  refine lv_iload_n hx hb d_M_rowOrNull_21 rfl (lv_at hl 1 rfl) ?_
  refine ald_R hC hw hra her (hr) (by omega) d_M_rowOrNull_22 ?_
  exact pg_aret hC.1 hw (⟨rfl, rfl⟩) d_M_rowOrNull_23
set_option maxHeartbeats 4000000 in
set_option maxRecDepth 100000 in
theorem c_M_byteAt (l : Launch) (D : va_G) (kc : Nat → ClassId) (L : List Nat) (f : Nat → va_E) (sz : Nat) (tg : Nat → Nat × Nat) (k am ra : Nat) (mo : Int32) (pg N : Nat) (g : Nat → Option Nat) (bs : Nat → Nat) (hm : memG kc L f tg k am ra mo pg N g bs) (P : Nat) (hP : P < 1024 * N) : Met l y_M_byteAt w_M_byteAt ({ frames := 1, cells := 0, slots := 0, locals := 21 }) (PP D kc L f sz [.ref am, .int (nI P)]) (Qi D L f sz (fun r u => r = nI (bs P) ∧ u = (L, f))) 0 0 (pA L f sz) := by
  refine kx_met (by decide) (Nat.le_of_ble_eq_true rfl) ?_
  intro p e s m below meth c hC hnm hw hsz ls hl
  subst hsz
  have hl : lv_has ls 3 [(0, .ref am), (1, .int (nI P))] := hl
  obtain ⟨⟨⟨hx, hb, hml, hown, hts⟩, hret9, hlocks⟩, hK, hE, hA⟩ := id hC
  obtain ⟨⟨ham, hta, hem⟩, ⟨hra, htr, her⟩, hN, hbs, hrow⟩ := id hm
  have hr : P / 1024 < N := by omega
  have h31 : P < 2 ^ 31 := by omega
  refine lv_aload_n hx hb d_M_byteAt_0 rfl (lv_at hl 0 rfl) ?_
  refine lv_iload_n hx hb d_M_byteAt_1 rfl (lv_at hl 1 rfl) ?_
  refine lv_sipush (v := 1024) hx hb d_M_byteAt_2 (by decide) ?_
  refine lv_idiv hx hb d_M_byteAt_5 (by decide) ?_
  refine tp_i (v := nI (P / 1024)) (pk_div (d := 1024) h31 (by decide) (by decide)) ?_
  refine callVq (As := [.int (nI (P / 1024))]) (n9 := 1) hC hw (c_M_rowOrNull l D kc _ _ _ am ra mo pg N g ham hem hra her hN (P / 1024) hr) k_co_M_rowOrNull k_ml_M_44 k_im_M_rowOrNull k_se_M_rowOrNull k_in_M rfl rfl (by decide +kernel) rfl ⟨Nat.le_of_ble_eq_true rfl, Nat.le_of_ble_eq_true rfl⟩ ham hem rfl hl.1 rfl (Nat.le_of_ble_eq_true rfl) d_M_byteAt_6 ⟨Nat.le_of_ble_eq_true rfl, Nat.le_of_ble_eq_true rfl⟩ (fun o u H locs hp hw => ?_)
  obtain ⟨rfl, rfl⟩ := hp
  rcases hrow (P / 1024) hr with ⟨hg, hz⟩ | ⟨w9, b9, hh, hg, hw9, htw, hfw, hb9, htb, hfb, hv⟩
  · refine tp_v (v := .null) (by rw [hg]; rfl) ?_
    refine lv_astore_nN (lv' := [(2, .null), (0, .ref am), (1, .int (nI P))]) hx hb d_M_byteAt_9 rfl hl (by decide) rfl (fun ls hl => ?_)
    refine lv_aload_nN hx hb d_M_byteAt_10 rfl (lv_at hl 0 rfl) ?_
    refine lv_ifnullN (tgt := 18) hx hb d_M_byteAt_11 (by decide) ?_
    refine lv_iconst (v := 0) hx hb d_M_byteAt_18 (by decide) ?_
    refine lv_goto (tgt := 36) hx hb d_M_byteAt_19 (by decide) ?_
    exact pg_iret hC.1 hw (⟨by rw [show P = 1024 * (P / 1024) + P % 1024 by omega, hz (P % 1024) (by omega)]; rfl, rfl⟩) d_M_byteAt_36
  · refine tp_v (v := .ref w9) (by rw [hg]; rfl) ?_
    refine lv_astore_n (lv' := [(2, .ref w9), (0, .ref am), (1, .int (nI P))]) hx hb d_M_byteAt_9 rfl hl (by decide) rfl (fun ls hl => ?_)
    refine lv_aload_n hx hb d_M_byteAt_10 rfl (lv_at hl 0 rfl) ?_
    refine lv_ifnull hx hb d_M_byteAt_11 ?_
    refine lv_iload_n hx hb d_M_byteAt_14 rfl (lv_at hl 2 rfl) ?_
    refine lv_if_ge (tgt := 22) hx hb d_M_byteAt_15 (by decide) (fun c1 => ?_) (fun c1 => (c1 (nI_pos' h31)).elim)
    refine lv_aload_n hx hb d_M_byteAt_22 rfl (lv_at hl 0 rfl) ?_
    refine get_W hC hw hw9 hfw 0 (by decide) k_fl_M_52 rfl d_M_byteAt_23 ?_
    refine lv_iload_n hx hb d_M_byteAt_26 rfl (lv_at hl 2 rfl) ?_
    refine lv_sipush (v := 1024) hx hb d_M_byteAt_27 (by decide) ?_
    refine lv_irem hx hb d_M_byteAt_30 (by decide) ?_
    refine tp_i (v := nI (P % 1024)) (pk_rem (d := 1024) h31 (by decide) (by decide)) ?_
    refine ald_B hC hw hb9 hfb (by omega) (by decide) d_M_byteAt_31 ?_
    refine lv_sipush (v := 255) hx hb d_M_byteAt_32 (by decide) ?_
    refine lv_iand hx hb d_M_byteAt_35 ?_
    refine tp_i (v := nI (bs P)) (by rw [hv _ (by omega), show 1024 * (P / 1024) + P % 1024 = P by omega]; exact (sb_byte _ (hbs P)).1) ?_
    exact pg_iret hC.1 hw (⟨rfl, rfl⟩) d_M_byteAt_36
set_option maxHeartbeats 4000000 in
set_option maxRecDepth 100000 in
theorem c_W_init (l : Launch) (D : va_G) (kc : Nat → ClassId) (L : List Nat) (f : Nat → va_E) (sz : Nat) (wa : Nat) (hwa : wa ∈ L) (hew : f wa = .inr (1, [.null])) : Met l y_W_init w_W_init ({ frames := 1, cells := 1, slots := 1024, locals := 12 }) (PP D kc L f sz [.ref wa]) (Qv D L f sz (fun u => ∃ b, b ∉ L ∧ u = (L ++ [b], va_up (va_up f b (.inl (kc 0, 1024, .inl (fun _ => 0)))) wa (.inr (1, [.ref b]))))) 1 1024 (pA L f sz) := by
  refine kx_met (by decide) (Nat.le_of_ble_eq_true rfl) ?_
  intro p e s m below meth c hC hnm hw hsz ls hl
  subst hsz
  have hl : lv_has ls 1 [(0, .ref wa)] := hl
  obtain ⟨⟨⟨hx, hb, hml, hown, hts⟩, hret9, hlocks⟩, hK, hE, hA⟩ := id hC
  refine lv_aload_n hx hb d_W_init_0 rfl (lv_at hl 0 rfl) ?_
  refine callO hC hw hl.1 k_ml_W_3 d_W_init_1 (Nat.le_of_ble_eq_true rfl) (Nat.le_of_ble_eq_true rfl) ?_
  refine lv_aload_n hx hb d_W_init_4 rfl (lv_at hl 0 rfl) ?_
  refine lv_sipush (v := 1024) hx hb d_W_init_5 (by decide) ?_
  refine tp_i (v := nI 1024) (rfl) ?_
  refine newB hC hw (gg_of (by decide +kernel) (by decide +kernel)) (by decide) (Nat.le_of_ble_eq_true rfl) (Nat.le_of_ble_eq_true rfl) d_W_init_8 (fun b H hb9 hw => ?_)
  refine putF_W hC hw hnm rfl (mem_l hwa) ((va_up_ne _ _ (ne_in hwa hb9)).trans hew) 0 (by decide) k_fl_W_9 rfl rfl rfl rfl (Nat.le_of_ble_eq_true rfl) d_W_init_10 (fun H locs hw => ?_)
  exact pg_vret hC.1 hw (⟨b, hb9, rfl⟩) d_W_init_13
set_option maxHeartbeats 4000000 in
set_option maxRecDepth 100000 in
theorem c_M_rowToWrite_some (l : Launch) (D : va_G) (kc : Nat → ClassId) (L : List Nat) (f : Nat → va_E) (sz : Nat) (am ra : Nat) (mo : Int32) (pg N : Nat) (g : Nat → Option Nat) (ham : am ∈ L) (hem : f am = .inr (0, [.int mo, .int (nI pg), .ref ra])) (hra : ra ∈ L) (her : f ra = .inl (kc 2, N, .inr (.inr (.inr (.inr g))))) (hN : N ≤ 1024) (r : Nat) (hr : r < N) (w9 : Nat) (hg : g r = some w9) : Met l y_M_rowToWrite w_M_rowToWrite ({ frames := 0, cells := 0, slots := 0, locals := 0 }) (PP D kc L f sz [.ref am, .int (nI r)]) (Qq D L f sz (fun o u => o = some w9 ∧ u = (L, f))) 0 0 (pA L f sz) := by
  refine kx_met (by decide) (Nat.le_of_ble_eq_true rfl) ?_
  intro p e s m below meth c hC hnm hw hsz ls hl
  subst hsz
  have hl : lv_has ls 2 [(0, .ref am), (1, .int (nI r))] := hl
  obtain ⟨⟨⟨hx, hb, hml, hown, hts⟩, hret9, hlocks⟩, hK, hE, hA⟩ := id hC
  have h31 : r < 2 ^ 31 := by omega
  refine lv_iload_n hx hb d_M_rowToWrite_0 rfl (lv_at hl 1 rfl) ?_
  refine lv_if_lt (tgt := 13) hx hb d_M_rowToWrite_1 (by decide) (fun c1 => (nI_pos h31 c1).elim) (fun c1 => ?_)
  refine lv_iload_n hx hb d_M_rowToWrite_4 rfl (lv_at hl 1 rfl) ?_
  refine lv_aload_n hx hb d_M_rowToWrite_5 rfl (lv_at hl 0 rfl) ?_
  refine get_M hC hw ham hem 2 (by decide) k_fl_M_29 rfl d_M_rowToWrite_6 ?_
  refine len_R hC hw hra her d_M_rowToWrite_9 ?_
  refine lv_icmp_lt (tgt := 15) hx hb d_M_rowToWrite_10 (by decide) (fun c2 => ?_) (fun c2 => (c2 (nI_lt hr (by omega))).elim)
  refine lv_aload_n hx hb d_M_rowToWrite_15 rfl (lv_at hl 0 rfl) ?_
  refine get_M hC hw ham hem 2 (by decide) k_fl_M_29 rfl d_M_rowToWrite_16 ?_
  refine lv_iload_n hx hb d_M_rowToWrite_19 rfl (lv_at hl 1 rfl) ?_
  refine ald_R hC hw hra her (hr) (by omega) d_M_rowToWrite_20 ?_
  refine tp_v (v := .ref w9) (by rw [hg]; rfl) ?_
  refine lv_ifnonnull (tgt := 37) hx hb d_M_rowToWrite_21 (by decide) ?_
  refine lv_aload_n hx hb d_M_rowToWrite_37 rfl (lv_at hl 0 rfl) ?_
  refine get_M hC hw ham hem 2 (by decide) k_fl_M_29 rfl d_M_rowToWrite_38 ?_
  refine lv_iload_n hx hb d_M_rowToWrite_41 rfl (lv_at hl 1 rfl) ?_
  refine ald_R hC hw hra her (hr) (by omega) d_M_rowToWrite_42 ?_
  exact pg_aret hC.1 hw (⟨hg, rfl⟩) d_M_rowToWrite_43
set_option maxHeartbeats 4000000 in
set_option maxRecDepth 100000 in
theorem c_M_rowToWrite_none (l : Launch) (D : va_G) (kc : Nat → ClassId) (L : List Nat) (f : Nat → va_E) (sz : Nat) (tg : Nat → Nat × Nat) (k am ra : Nat) (mo : Int32) (pg N : Nat) (g : Nat → Option Nat) (bs : Nat → Nat) (hm : memG kc L f tg k am ra mo pg N g bs) (r : Nat) (hr : r < N) (hg : g r = none) : Met l y_M_rowToWrite w_M_rowToWrite ({ frames := 2, cells := 2, slots := 1025, locals := 32 }) (PP D kc L f sz [.ref am, .int (nI r)]) (Qq D L f sz (fun o u => ∃ tg' g' w, o = some w ∧ memG kc u.1 u.2 tg' k am ra mo pg N g' bs ∧ g' r = some w ∧ (∀ r2, r2 ≠ r → g' r2 = g r2) ∧ Ext (fun i => i = k) L f tg u tg')) 2 1025 (pA L f sz) := by
  refine kx_met (by decide) (Nat.le_of_ble_eq_true rfl) ?_
  intro p e s m below meth c hC hnm hw hsz ls hl
  subst hsz
  have hl : lv_has ls 2 [(0, .ref am), (1, .int (nI r))] := hl
  obtain ⟨⟨⟨hx, hb, hml, hown, hts⟩, hret9, hlocks⟩, hK, hE, hA⟩ := id hC
  obtain ⟨⟨ham, hta, hem⟩, ⟨hra, htr, her⟩, hN, hbs, hrow⟩ := id hm
  have h31 : r < 2 ^ 31 := by omega
  refine lv_iload_n hx hb d_M_rowToWrite_0 rfl (lv_at hl 1 rfl) ?_
  refine lv_if_lt (tgt := 13) hx hb d_M_rowToWrite_1 (by decide) (fun c1 => (nI_pos h31 c1).elim) (fun c1 => ?_)
  refine lv_iload_n hx hb d_M_rowToWrite_4 rfl (lv_at hl 1 rfl) ?_
  refine lv_aload_n hx hb d_M_rowToWrite_5 rfl (lv_at hl 0 rfl) ?_
  refine get_M hC hw ham hem 2 (by decide) k_fl_M_29 rfl d_M_rowToWrite_6 ?_
  refine len_R hC hw hra her d_M_rowToWrite_9 ?_
  refine lv_icmp_lt (tgt := 15) hx hb d_M_rowToWrite_10 (by decide) (fun c2 => ?_) (fun c2 => (c2 (nI_lt hr (by omega))).elim)
  refine lv_aload_n hx hb d_M_rowToWrite_15 rfl (lv_at hl 0 rfl) ?_
  refine get_M hC hw ham hem 2 (by decide) k_fl_M_29 rfl d_M_rowToWrite_16 ?_
  refine lv_iload_n hx hb d_M_rowToWrite_19 rfl (lv_at hl 1 rfl) ?_
  refine ald_R hC hw hra her (hr) (by omega) d_M_rowToWrite_20 ?_
  refine tp_v (v := .null) (by rw [hg]; rfl) ?_
  refine lv_ifnonnullN hx hb d_M_rowToWrite_21 ?_
  refine lv_aload_n hx hb d_M_rowToWrite_24 rfl (lv_at hl 0 rfl) ?_
  refine get_M hC hw ham hem 2 (by decide) k_fl_M_29 rfl d_M_rowToWrite_25 ?_
  refine lv_iload_n hx hb d_M_rowToWrite_28 rfl (lv_at hl 1 rfl) ?_
  refine new_W hC hw k_cl_M_27 k_it_W k_in_W (fs := [.null]) (fun j hj => by rcases (show j = 0 by omega) with rfl; rfl) (Nat.le_of_ble_eq_true rfl) (Nat.le_of_ble_eq_true rfl) d_M_rowToWrite_29 (fun q H hq hw => ?_)
  refine lv_dup hx hb d_M_rowToWrite_32 rfl ?_
  refine callCtor (b := q) (As := []) (n9 := 0) hC hw (c_W_init l D kc _ _ _ q mem_r (va_up_self _ _ _)) k_co_W_init k_ml_M_69 k_im_W_init k_in_W rfl rfl rfl (by decide +kernel) rfl ⟨Nat.le_of_ble_eq_true rfl, Nat.le_of_ble_eq_true rfl⟩ hl.1 rfl (Nat.le_of_ble_eq_true rfl) d_M_rowToWrite_33 ⟨Nat.le_of_ble_eq_true rfl, Nat.le_of_ble_eq_true rfl⟩ (fun u H locs hp hw => ?_)
  obtain ⟨b, hb9, rfl⟩ := hp
  have hbL : b ∉ L := fun h => hb9 (mem_l h)
  have hqb : q ≠ b := ne_in mem_r hb9
  have hraq : ra ≠ q := ne_in hra hq
  have hrab : ra ≠ b := ne_in hra hbL
  have hamq : am ≠ q := ne_in ham hq
  have hamb : am ≠ b := ne_in ham hbL
  obtain ⟨f2, hf2⟩ : ∃ F, F = va_up (va_up (va_up f q (.inr (1, [.null]))) b (.inl (kc 0, 1024, .inl (fun _ => 0)))) q (.inr (1, [.ref b])) := ⟨_, rfl⟩
  have k2 : ∀ a, a ≠ q → a ≠ b → f2 a = f a := fun a h1 h2 => by rw [hf2, va_up_ne _ _ h1, va_up_ne _ _ h2, va_up_ne _ _ h1]
  have q2 : f2 q = .inr (1, [.ref b]) := by rw [hf2]; exact va_up_self _ _ _
  have b2 : f2 b = .inl (kc 0, 1024, .inl (fun _ => 0)) := by rw [hf2, va_up_ne _ _ (Ne.symm hqb)]; exact va_up_self _ _ _
  have hw := pw_as (L' := (L ++ [q]) ++ [b]) (f' := f2) hw rfl hf2.symm
  refine ast_R hC hw (mem_l (mem_l hra)) ((k2 ra hraq hrab).trans her) (mem_l mem_r) q2 hr (by omega) d_M_rowToWrite_36 (fun H locs hw => ?_)
  obtain ⟨f3, hf3⟩ : ∃ F, F = va_up f2 ra (.inl (kc 2, N, .inr (.inr (.inr (.inr (va_up g r (some q))))))) := ⟨_, rfl⟩
  rw [← hf3] at hw
  have k3 : ∀ a, a ≠ ra → f3 a = f2 a := fun a h1 => by rw [hf3, va_up_ne _ _ h1]
  have r3 : f3 ra = .inl (kc 2, N, .inr (.inr (.inr (.inr (va_up g r (some q)))))) := by rw [hf3]; exact va_up_self _ _ _
  have hamra : am ≠ ra := fun e => by rw [e, htr] at hta; cases hta
  have hem3 : f3 am = .inr (0, [.int mo, .int (nI pg), .ref ra]) := by rw [k3 am hamra, k2 am hamq hamb]; exact hem
  refine lv_aload_n hx hb d_M_rowToWrite_37 rfl (lv_at hl 0 rfl) ?_
  refine get_M hC hw (mem_l (mem_l ham)) hem3 2 (by decide) k_fl_M_29 rfl d_M_rowToWrite_38 ?_
  refine lv_iload_n hx hb d_M_rowToWrite_41 rfl (lv_at hl 1 rfl) ?_
  refine ald_R hC hw (mem_l (mem_l hra)) r3 (hr) (by omega) d_M_rowToWrite_42 ?_
  obtain ⟨tg2, hm2, he2⟩ := memG_new hm hr hg hq hbL hqb (f' := f3) (by rw [k3 q (Ne.symm hraq)]; exact q2) (by rw [k3 b (Ne.symm hrab)]; exact b2) r3 (fun a ha hne => by rw [k3 a hne, k2 a (ne_in ha hq) (ne_in ha hbL)])
  refine W.widen (k := 2) (n := 1025) (by omega) (by omega) ?_
  exact pg_aret hC.1 hw (⟨tg2, va_up g r (some q), q, va_up_self _ _ _, hm2, va_up_self _ _ _, fun r2 h2 => va_up_ne _ _ h2, he2⟩) d_M_rowToWrite_43
