/-! Row.weighedPart, Memory.weighedSum, Memory() -/
theorem dec_w (w : Int32) (i : Nat) : w - nI i + (-1) = w - nI (i + 1) := by
  rw [← nI_1, Int32.sub_eq_add_neg, Int32.sub_eq_add_neg, Int32.neg_add, Int32.add_assoc, Int32.sub_eq_add_neg]
set_option maxHeartbeats 4000000 in
set_option maxRecDepth 100000 in
theorem lp_weighedPart {p : Program} {l : Launch} {e : Env} {R : Room} {s : State} {m : MethodId} {args : Array Value} {below : List Frame} {meth : Method} {c : Code} {Q : State → Prop} {A : Nat → Prop} {D : va_G} {kc : Nat → ClassId} {c0 : Cond} {ret : Option FieldType} {L : List Nat} {f : Nat → va_E} {cells slots : Nat} (hcs : cells ≤ R.cells ∧ slots ≤ R.slots) {wa ba a b Q9 : Nat} {hh : Nat → Int32} {bs : Nat → Nat} (w : Int32) (hwa : wa ∈ L) (hew : f wa = .inr (1, [.ref ba])) (hba : ba ∈ L) (heb : f ba = .inl (kc 0, 1024, .inl hh)) (hbs : ∀ j, bs j < 256) (hv : ∀ j, j < 1024 → hh j = sb_b (bs (Q9 + j))) (hab : a ≤ b) (hb9 : b ≤ 1024) (hC : Kx p m c b_W_weighedPart 7 s args c0 R_W meth ret D kc A) (hRf : 1 ≤ R.frames) (hRl : 14 ≤ R.locals)
    (kont : ∀ (H : Heap) (locs : List Loc) (ls : Array Slot), pw D Cls A s.heap H locs L f → lv_has ls 7 [(4, .int (wsum bs (Q9 + a) w (b - a)))] → W p l e R s m args below meth c H locs cells slots Q (F0 m 55 ls [])) :
    ∀ (n : Nat) (i : Nat) (H : Heap) (locs : List Loc) (ls : Array Slot), a + i ≤ b → b + 1 ≤ a + i + n → pw D Cls A s.heap H locs L f → lv_has ls 7 [(6, .int (nI (a + i))), (4, .int (wsum bs (Q9 + a) w i)), (5, .int (w - nI i)), (0, .ref wa), (2, .int (nI b))] → W p l e R s m args below meth c H locs cells slots Q (F0 m 13 ls []) := by
  obtain ⟨⟨⟨hx, hb, hml, hown, hts⟩, hret9, hlocks⟩, hK, hE, hA⟩ := id hC
  intro n
  induction n with
  | zero => intro i H locs ls hi hin hw hl; exact absurd hin (by omega)
  | succ n ih =>
    intro i H locs ls hi hin hw hl
    refine lv_iload hx hb d_W_weighedPart_13 (lv_at hl 0 rfl) ?_
    refine lv_iload_n hx hb d_W_weighedPart_15 rfl (lv_at hl 4 rfl) ?_
    refine lv_aload_n hx hb d_W_weighedPart_16 rfl (lv_at hl 3 rfl) ?_
    refine get_W hC hw hwa hew 0 (by decide) k_fl_W_9 rfl d_W_weighedPart_17 ?_
    refine len_B hC hw hba heb d_W_weighedPart_20 ?_
    refine kmin (a := b) (b := 1024) hC hl.1 k_ml_W_21 (by omega) (by decide) ⟨Nat.le_trans (Nat.le_of_ble_eq_true rfl) hRf, Nat.le_trans (Nat.le_of_ble_eq_true rfl) hRl⟩ (hcs) d_W_weighedPart_21 ?_
    refine tp_i (v := nI b) (by rw [Nat.min_eq_left hb9]) ?_
    refine lv_icmp_ge (tgt := 55) hx hb d_W_weighedPart_24 (by decide) (fun c1 => ?_) (fun c1 => ?_)
    · have e : a + i = b := by
        rcases Nat.lt_or_ge (a + i) b with q | q
        · exact absurd c1 (nI_ge q (by omega))
        · omega
      rw [show i = b - a by omega] at hl
      exact kont H locs ls hw (lv_sub hl [1] rfl)
    · have hlt : a + i < b := by
        rcases Nat.lt_or_ge (a + i) b with q | q
        · exact q
        · exact absurd (nI_le q (by omega)) c1
      refine lv_iload hx hb d_W_weighedPart_27 (lv_at hl 1 rfl) ?_
      refine lv_aload_n hx hb d_W_weighedPart_29 rfl (lv_at hl 3 rfl) ?_
      refine get_W hC hw hwa hew 0 (by decide) k_fl_W_9 rfl d_W_weighedPart_30 ?_
      refine lv_iload hx hb d_W_weighedPart_33 (lv_at hl 0 rfl) ?_
      refine ald_B hC hw hba heb (by omega) (by decide) d_W_weighedPart_35 ?_
      refine lv_sipush (v := 255) hx hb d_W_weighedPart_36 (by decide) ?_
      refine lv_iand hx hb d_W_weighedPart_39 ?_
      refine tp_i (v := nI (bs (Q9 + a + i))) (by rw [hv _ (by omega), Nat.add_assoc]; exact (sb_byte _ (hbs _)).1) ?_
      refine lv_iload hx hb d_W_weighedPart_40 (lv_at hl 2 rfl) ?_
      refine lv_imul hx hb d_W_weighedPart_42 ?_
      refine lv_iadd hx hb d_W_weighedPart_43 ?_
      refine lv_istore (lv' := [(4, .int ((wsum bs (Q9 + a) w i) + ((nI (bs (Q9 + a + i))) * (w - nI i)))), (6, .int (nI (a + i))), (5, .int (w - nI i)), (0, .ref wa), (2, .int (nI b))]) hx hb d_W_weighedPart_44 hl (by decide) rfl (fun ls hl => ?_)
      refine lv_iinc (v := w - nI (i + 1)) (lv' := [(5, .int (w - nI (i + 1))), (4, .int ((wsum bs (Q9 + a) w i) + ((nI (bs (Q9 + a + i))) * (w - nI i)))), (6, .int (nI (a + i))), (0, .ref wa), (2, .int (nI b))]) hx hb d_W_weighedPart_46 hl (k := 2) rfl (dec_w w i) (by decide) rfl (fun ls hl => ?_)
      refine lv_iinc (v := nI (a + (i + 1))) (lv' := [(6, .int (nI (a + (i + 1)))), (5, .int (w - nI (i + 1))), (4, .int ((wsum bs (Q9 + a) w i) + ((nI (bs (Q9 + a + i))) * (w - nI i)))), (0, .ref wa), (2, .int (nI b))]) hx hb d_W_weighedPart_49 hl (k := 2) rfl (nI_1 (a + i)) (by decide) rfl (fun ls hl => ?_)
      refine lv_goto (tgt := 13) hx hb d_W_weighedPart_52 (by decide) ?_
      exact ih (i + 1) _ _ _ (by omega) (by omega) hw (lv_sub hl [0, 2, 1, 3, 4] rfl)
set_option maxHeartbeats 4000000 in
set_option maxRecDepth 100000 in
theorem c_W_weighedPart (l : Launch) (D : va_G) (kc : Nat → ClassId) (L : List Nat) (f : Nat → va_E) (sz : Nat) (wa ba a b Q9 : Nat) (hh : Nat → Int32) (bs : Nat → Nat) (w : Int32) (hwa : wa ∈ L) (hew : f wa = .inr (1, [.ref ba])) (hba : ba ∈ L) (heb : f ba = .inl (kc 0, 1024, .inl hh)) (hbs : ∀ j, bs j < 256) (hv : ∀ j, j < 1024 → hh j = sb_b (bs (Q9 + j))) (hab : a ≤ b) (hb9 : b ≤ 1024) : Met l y_W_weighedPart w_W_weighedPart ({ frames := 1, cells := 0, slots := 0, locals := 14 }) (PP D kc L f sz [.ref wa, .int (nI a), .int (nI b), .int w]) (Qi D L f sz (fun r u => r = wsum bs (Q9 + a) w (b - a) ∧ u = (L, f))) 0 0 (pA L f sz) := by
  refine kx_met (by decide) (Nat.le_of_ble_eq_true rfl) ?_
  intro p e s m below meth c hC hnm hw hsz ls hl
  subst hsz
  have hl : lv_has ls 7 [(0, .ref wa), (1, .int (nI a)), (2, .int (nI b)), (3, .int w)] := hl
  obtain ⟨⟨⟨hx, hb, hml, hown, hts⟩, hret9, hlocks⟩, hK, hE, hA⟩ := id hC
  refine lv_iconst (v := 0) hx hb d_W_weighedPart_0 (by decide) ?_
  refine lv_istore (lv' := [(4, .int 0), (0, .ref wa), (1, .int (nI a)), (2, .int (nI b)), (3, .int w)]) hx hb d_W_weighedPart_1 hl (by decide) rfl (fun ls hl => ?_)
  refine lv_iload_n hx hb d_W_weighedPart_3 rfl (lv_at hl 4 rfl) ?_
  refine lv_istore (lv' := [(5, .int w), (4, .int 0), (0, .ref wa), (1, .int (nI a)), (2, .int (nI b)), (3, .int w)]) hx hb d_W_weighedPart_4 hl (by decide) rfl (fun ls hl => ?_)
  refine lv_iload_n hx hb d_W_weighedPart_6 rfl (lv_at hl 3 rfl) ?_
  refine lv_iconst (v := 0) hx hb d_W_weighedPart_7 (by decide) ?_
  refine tp_i (v := nI 0) (rfl) ?_
  refine kmax (a := a) (b := 0) hC hl.1 k_ml_W_15 (by omega) (by decide) ⟨Nat.le_of_ble_eq_true rfl, Nat.le_of_ble_eq_true rfl⟩ (⟨Nat.zero_le _, Nat.zero_le _⟩) d_W_weighedPart_8 ?_
  refine tp_i (v := nI (a + 0)) (by rw [Nat.max_eq_left (Nat.zero_le _)]; rfl) ?_
  refine lv_istore (lv' := [(6, .int (nI (a + 0))), (5, .int w), (4, .int 0), (0, .ref wa), (1, .int (nI a)), (2, .int (nI b)), (3, .int w)]) hx hb d_W_weighedPart_11 hl (by decide) rfl (fun ls hl => ?_)
  have hl : lv_has ls 7 [(6, .int (nI (a + 0))), (4, .int (wsum bs (Q9 + a) w 0)), (5, .int (w - nI 0)), (0, .ref wa), (2, .int (nI b))] := by
    have h0 : w - nI 0 = w := by rw [nI_0, Int32.sub_zero]
    rw [h0]
    exact (lv_sub hl [0, 2, 1, 3, 5] rfl)
  refine lp_weighedPart ⟨Nat.zero_le _, Nat.zero_le _⟩ w hwa hew hba heb hbs hv hab hb9 hC (Nat.le_of_ble_eq_true rfl) (Nat.le_of_ble_eq_true rfl) (fun H locs ls hw hl => ?_) (b + 1) 0 _ _ _ (by omega) (by omega) hw hl
  refine lv_iload hx hb d_W_weighedPart_55 (lv_at hl 0 rfl) ?_
  exact pg_iret hC.1 hw (⟨rfl, rfl⟩) d_W_weighedPart_57
set_option maxHeartbeats 4000000 in
set_option maxRecDepth 100000 in
theorem lp_weighedSum {p : Program} {l : Launch} {e : Env} {R : Room} {s : State} {m : MethodId} {args : Array Value} {below : List Frame} {meth : Method} {c : Code} {Q : State → Prop} {A : Nat → Prop} {D : va_G} {kc : Nat → ClassId} {c0 : Cond} {ret : Option FieldType} {L : List Nat} {f : Nat → va_E} {tg : Nat → Nat × Nat} {k am ra : Nat} {mo : Int32} {pg N : Nat} {g : Nat → Option Nat} {bs : Nat → Nat} (hm : memG kc L f tg k am ra mo pg N g bs) {cells slots : Nat} (hcs : cells ≤ R.cells ∧ slots ≤ R.slots) (P nb : Nat) (hP : P + nb ≤ 1024 * N) (hnb : 0 < nb ∧ nb ≤ 65536) (hC : Kx p m c b_M_weighedSum 8 s args c0 R_M meth ret D kc A) (hRf : 2 ≤ R.frames) (hRl : 40 ≤ R.locals)
    (kont : ∀ (H : Heap) (locs : List Loc) (ls : Array Slot), pw D Cls A s.heap H locs L f → lv_has ls 8 [(3, .int (wsum bs P (nI nb) nb))] → W p l e R s m args below meth c H locs cells slots Q (F0 m 102 ls [])) :
    ∀ (n : Nat) (r : Nat) (H : Heap) (locs : List Loc) (ls : Array Slot), P / 1024 ≤ r → r ≤ (P + nb - 1) / 1024 + 1 → (P + nb - 1) / 1024 + 2 ≤ r + n → pw D Cls A s.heap H locs L f → lv_has ls 8 [(4, .int (nI r)), (3, .int (wsum bs P (nI nb) (min (P + nb) (max P (r * 1024)) - P))), (0, .ref am), (1, .int (nI P)), (2, .int (nI nb))] → W p l e R s m args below meth c H locs cells slots Q (F0 m 9 ls []) := by
  obtain ⟨⟨⟨hx, hb, hml, hown, hts⟩, hret9, hlocks⟩, hK, hE, hA⟩ := id hC
  intro n
  induction n with
  | zero => intro r H locs ls hr0 hr1 hin hw hl; exact absurd hin (by omega)
  | succ n ih =>
    intro r H locs ls hr0 hr1 hin hw hl
    obtain ⟨⟨ham, hta, hem⟩, ⟨hra, htr, her⟩, hN, hbs, hrow⟩ := id hm
    refine lv_iload hx hb d_M_weighedSum_9 (lv_at hl 0 rfl) ?_
    refine lv_iload_n hx hb d_M_weighedSum_11 rfl (lv_at hl 3 rfl) ?_
    refine lv_iload_n hx hb d_M_weighedSum_12 rfl (lv_at hl 4 rfl) ?_
    refine lv_iadd hx hb d_M_weighedSum_13 ?_
    refine tp_i (v := nI (P + nb)) (nI_add P nb) ?_
    refine lv_iconst (v := 1) hx hb d_M_weighedSum_14 (by decide) ?_
    refine lv_isub hx hb d_M_weighedSum_15 ?_
    refine tp_i (v := nI (P + nb - 1)) (pk_sub (b := 1) (by omega)) ?_
    refine lv_sipush (v := 1024) hx hb d_M_weighedSum_16 (by decide) ?_
    refine lv_idiv hx hb d_M_weighedSum_19 (by decide) ?_
    refine tp_i (v := nI ((P + nb - 1) / 1024)) (pk_div (d := 1024) (by omega) (by decide) (by decide)) ?_
    refine lv_icmp_gt (tgt := 102) hx hb d_M_weighedSum_20 (by decide) (fun c1 => ?_) (fun c1 => ?_)
    · have e : (P + nb - 1) / 1024 < r := by
        rcases Nat.lt_or_ge ((P + nb - 1) / 1024) r with q | q
        · exact q
        · exact absurd c1 (nI_nlt q (by omega))
      rw [show min (P + nb) (max P (r * 1024)) - P = nb by omega] at hl
      exact kont H locs ls hw (lv_sub hl [1] rfl)
    · have hlt : r ≤ (P + nb - 1) / 1024 := by
        rcases Nat.lt_or_ge ((P + nb - 1) / 1024) r with q | q
        · exact absurd (nI_lt q (by omega)) c1
        · exact q
      have hrN : r < N := by omega
      have hsp : wsum bs P (nI nb) (min (P + nb) (max P ((r + 1) * 1024)) - P) = wsum bs P (nI nb) (min (P + nb) (max P (r * 1024)) - P) + wsum bs (max P (r * 1024)) (nI (P + nb - max P (r * 1024))) (min (P + nb) ((r + 1) * 1024) - max P (r * 1024)) := by
        rw [show min (P + nb) (max P ((r + 1) * 1024)) - P = (min (P + nb) (max P (r * 1024)) - P) + (min (P + nb) ((r + 1) * 1024) - max P (r * 1024)) by omega, wsum_split, pk_sub (by omega)]
        congr 2
        · omega
        · congr 1; omega
      refine lv_aload_n hx hb d_M_weighedSum_23 rfl (lv_at hl 2 rfl) ?_
      refine lv_iload hx hb d_M_weighedSum_24 (lv_at hl 0 rfl) ?_
      refine callVq (As := [.int (nI r)]) (n9 := 1) hC hw (c_M_rowOrNull l D kc _ _ _ am ra mo pg N g ham hem hra her hN r hrN) k_co_M_rowOrNull k_ml_M_44 k_im_M_rowOrNull k_se_M_rowOrNull k_in_M rfl rfl (by decide +kernel) rfl ⟨Nat.le_trans (Nat.le_of_ble_eq_true rfl) hRf, Nat.le_trans (Nat.le_of_ble_eq_true rfl) hRl⟩ ham hem rfl hl.1 rfl (Nat.le_of_ble_eq_true rfl) d_M_weighedSum_26 ⟨hcs.1, hcs.2⟩ (fun o u H locs hp hw => ?_)
      obtain ⟨rfl, rfl⟩ := hp
      rcases hrow r hrN with ⟨hg, hz⟩ | ⟨w9, b9, hh, hg, hw9, htw, hfw, hb9, htb, hfb, hv⟩
      · refine tp_v (v := .null) (by rw [hg]; rfl) ?_
        refine lv_astoreN (lv' := [(5, .null), (4, .int (nI r)), (3, .int (wsum bs P (nI nb) (min (P + nb) (max P (r * 1024)) - P))), (0, .ref am), (1, .int (nI P)), (2, .int (nI nb))]) hx hb d_M_weighedSum_29 hl (by decide) rfl (fun ls hl => ?_)
        refine lv_aloadN hx hb d_M_weighedSum_31 (lv_at hl 0 rfl) ?_
        refine lv_ifnullN (tgt := 96) hx hb d_M_weighedSum_33 (by decide) ?_
        refine lv_iinc (v := nI (r + 1)) (lv' := [(4, .int (nI (r + 1))), (5, .null), (3, .int (wsum bs P (nI nb) (min (P + nb) (max P (r * 1024)) - P))), (0, .ref am), (1, .int (nI P)), (2, .int (nI nb))]) hx hb d_M_weighedSum_96 hl (k := 1) rfl (nI_1 r) (by decide) rfl (fun ls hl => ?_)
        refine lv_goto (tgt := 9) hx hb d_M_weighedSum_99 (by decide) ?_
        rw [wsum_zero (P := max P (r * 1024)) _ (min (P + nb) ((r + 1) * 1024) - max P (r * 1024)) (fun i hi => by rw [show max P (r * 1024) + i = 1024 * r + (max P (r * 1024) + i - 1024 * r) by omega]; exact hz _ (by omega)), Int32.add_zero] at hsp
        rw [← hsp] at hl
        exact ih (r + 1) _ _ _ (by omega) (by omega) (by omega) hw (lv_sub hl [0, 2, 3, 4, 5] rfl)
      · refine tp_v (v := .ref w9) (by rw [hg]; rfl) ?_
        refine lv_astore (lv' := [(5, .ref w9), (4, .int (nI r)), (3, .int (wsum bs P (nI nb) (min (P + nb) (max P (r * 1024)) - P))), (0, .ref am), (1, .int (nI P)), (2, .int (nI nb))]) hx hb d_M_weighedSum_29 hl (by decide) rfl (fun ls hl => ?_)
        refine lv_aload hx hb d_M_weighedSum_31 (lv_at hl 0 rfl) ?_
        refine lv_ifnull hx hb d_M_weighedSum_33 ?_
        refine lv_iload_n hx hb d_M_weighedSum_36 rfl (lv_at hl 4 rfl) ?_
        refine lv_iload hx hb d_M_weighedSum_37 (lv_at hl 1 rfl) ?_
        refine lv_sipush (v := 1024) hx hb d_M_weighedSum_39 (by decide) ?_
        refine lv_imul hx hb d_M_weighedSum_42 ?_
        refine tp_i (v := nI (r * 1024)) (pk_mul r 1024) ?_
        refine kmax (a := P) (b := r * 1024) hC hl.1 k_ml_M_24 (by omega) (by omega) ⟨Nat.le_trans (Nat.le_of_ble_eq_true rfl) hRf, Nat.le_trans (Nat.le_of_ble_eq_true rfl) hRl⟩ (hcs) d_M_weighedSum_43 ?_
        refine lv_istore (lv' := [(6, .int (nI (max P (r * 1024)))), (5, .ref w9), (4, .int (nI r)), (3, .int (wsum bs P (nI nb) (min (P + nb) (max P (r * 1024)) - P))), (0, .ref am), (1, .int (nI P)), (2, .int (nI nb))]) hx hb d_M_weighedSum_46 hl (by decide) rfl (fun ls hl => ?_)
        refine lv_iload_n hx hb d_M_weighedSum_48 rfl (lv_at hl 5 rfl) ?_
        refine lv_iload_n hx hb d_M_weighedSum_49 rfl (lv_at hl 6 rfl) ?_
        refine lv_iadd hx hb d_M_weighedSum_50 ?_
        refine tp_i (v := nI (P + nb)) (nI_add P nb) ?_
        refine lv_iload hx hb d_M_weighedSum_51 (lv_at hl 2 rfl) ?_
        refine lv_iconst (v := 1) hx hb d_M_weighedSum_53 (by decide) ?_
        refine lv_iadd hx hb d_M_weighedSum_54 ?_
        refine tp_i (v := nI (r + 1)) (nI_1 r) ?_
        refine lv_sipush (v := 1024) hx hb d_M_weighedSum_55 (by decide) ?_
        refine lv_imul hx hb d_M_weighedSum_58 ?_
        refine tp_i (v := nI ((r + 1) * 1024)) (pk_mul (r + 1) 1024) ?_
        refine kmin (a := P + nb) (b := (r + 1) * 1024) hC hl.1 k_ml_M_18 (by omega) (by omega) ⟨Nat.le_trans (Nat.le_of_ble_eq_true rfl) hRf, Nat.le_trans (Nat.le_of_ble_eq_true rfl) hRl⟩ (hcs) d_M_weighedSum_59 ?_
        refine lv_istore (lv' := [(7, .int (nI (min (P + nb) ((r + 1) * 1024)))), (6, .int (nI (max P (r * 1024)))), (5, .ref w9), (4, .int (nI r)), (3, .int (wsum bs P (nI nb) (min (P + nb) (max P (r * 1024)) - P))), (0, .ref am), (1, .int (nI P)), (2, .int (nI nb))]) hx hb d_M_weighedSum_62 hl (by decide) rfl (fun ls hl => ?_)
        refine lv_iload_n hx hb d_M_weighedSum_64 rfl (lv_at hl 4 rfl) ?_
        refine lv_aload hx hb d_M_weighedSum_65 (lv_at hl 2 rfl) ?_
        refine lv_iload hx hb d_M_weighedSum_67 (lv_at hl 1 rfl) ?_
        refine lv_iload hx hb d_M_weighedSum_69 (lv_at hl 3 rfl) ?_
        refine lv_sipush (v := 1024) hx hb d_M_weighedSum_71 (by decide) ?_
        refine lv_imul hx hb d_M_weighedSum_74 ?_
        refine tp_i (v := nI (r * 1024)) (pk_mul r 1024) ?_
        refine lv_isub hx hb d_M_weighedSum_75 ?_
        refine tp_i (v := nI (max P (r * 1024) - r * 1024)) (pk_sub (Nat.le_max_right _ _)) ?_
        refine lv_iload hx hb d_M_weighedSum_76 (lv_at hl 0 rfl) ?_
        refine lv_iload hx hb d_M_weighedSum_78 (lv_at hl 3 rfl) ?_
        refine lv_sipush (v := 1024) hx hb d_M_weighedSum_80 (by decide) ?_
        refine lv_imul hx hb d_M_weighedSum_83 ?_
        refine tp_i (v := nI (r * 1024)) (pk_mul r 1024) ?_
        refine lv_isub hx hb d_M_weighedSum_84 ?_
        refine tp_i (v := nI (min (P + nb) ((r + 1) * 1024) - r * 1024)) (pk_sub (by omega)) ?_
        refine lv_iload_n hx hb d_M_weighedSum_85 rfl (lv_at hl 6 rfl) ?_
        refine lv_iload_n hx hb d_M_weighedSum_86 rfl (lv_at hl 7 rfl) ?_
        refine lv_iadd hx hb d_M_weighedSum_87 ?_
        refine tp_i (v := nI (P + nb)) (nI_add P nb) ?_
        refine lv_iload hx hb d_M_weighedSum_88 (lv_at hl 1 rfl) ?_
        refine lv_isub hx hb d_M_weighedSum_90 ?_
        refine tp_i (v := nI (P + nb - max P (r * 1024))) (pk_sub (by omega)) ?_
        refine callVi (As := [.int (nI (max P (r * 1024) - r * 1024)), .int (nI (min (P + nb) ((r + 1) * 1024) - r * 1024)), .int (nI (P + nb - max P (r * 1024)))]) (n9 := 3) hC hw (c_W_weighedPart l D kc _ _ _ w9 b9 (max P (r * 1024) - r * 1024) (min (P + nb) ((r + 1) * 1024) - r * 1024) (1024 * r) hh bs (nI (P + nb - max P (r * 1024))) hw9 hfw hb9 hfb hbs hv (by omega) (by omega)) k_co_W_weighedPart k_ml_M_65 k_im_W_weighedPart k_se_W_weighedPart k_in_W rfl rfl (by decide +kernel) rfl ⟨Nat.le_trans (Nat.le_of_ble_eq_true rfl) hRf, Nat.le_trans (Nat.le_of_ble_eq_true rfl) hRl⟩ hw9 hfw rfl hl.1 rfl (Nat.le_of_ble_eq_true rfl) d_M_weighedSum_91 ⟨hcs.1, hcs.2⟩ (fun r9 u H locs hp hw => ?_)
        obtain ⟨rfl, rfl⟩ := hp
        refine lv_iadd hx hb d_M_weighedSum_94 ?_
        refine tp_i (v := wsum bs P (nI nb) (min (P + nb) (max P ((r + 1) * 1024)) - P)) (by rw [hsp, show 1024 * r + (max P (r * 1024) - r * 1024) = max P (r * 1024) by omega, show min (P + nb) ((r + 1) * 1024) - r * 1024 - (max P (r * 1024) - r * 1024) = min (P + nb) ((r + 1) * 1024) - max P (r * 1024) by omega]) ?_
        refine lv_istore_n (lv' := [(3, .int (wsum bs P (nI nb) (min (P + nb) (max P ((r + 1) * 1024)) - P))), (7, .int (nI (min (P + nb) ((r + 1) * 1024)))), (6, .int (nI (max P (r * 1024)))), (5, .ref w9), (4, .int (nI r)), (0, .ref am), (1, .int (nI P)), (2, .int (nI nb))]) hx hb d_M_weighedSum_95 rfl hl (by decide) rfl (fun ls hl => ?_)
        refine lv_iinc (v := nI (r + 1)) (lv' := [(4, .int (nI (r + 1))), (3, .int (wsum bs P (nI nb) (min (P + nb) (max P ((r + 1) * 1024)) - P))), (7, .int (nI (min (P + nb) ((r + 1) * 1024)))), (6, .int (nI (max P (r * 1024)))), (5, .ref w9), (0, .ref am), (1, .int (nI P)), (2, .int (nI nb))]) hx hb d_M_weighedSum_96 hl (k := 4) rfl (nI_1 r) (by decide) rfl (fun ls hl => ?_)
        refine lv_goto (tgt := 9) hx hb d_M_weighedSum_99 (by decide) ?_
        exact ih (r + 1) _ _ _ (by omega) (by omega) (by omega) hw (lv_sub hl [0, 1, 5, 6, 7] rfl)
set_option maxHeartbeats 4000000 in
set_option maxRecDepth 100000 in
theorem c_M_weighedSum (l : Launch) (D : va_G) (kc : Nat → ClassId) (L : List Nat) (f : Nat → va_E) (sz : Nat) (tg : Nat → Nat × Nat) (k am ra : Nat) (mo : Int32) (pg N : Nat) (g : Nat → Option Nat) (bs : Nat → Nat) (hm : memG kc L f tg k am ra mo pg N g bs) (P nb : Nat) (hP : P + nb ≤ 1024 * N) (hnb : 0 < nb ∧ nb ≤ 65536) : Met l y_M_weighedSum w_M_weighedSum ({ frames := 2, cells := 0, slots := 0, locals := 40 }) (PP D kc L f sz [.ref am, .int (nI P), .int (nI nb)]) (Qi D L f sz (fun r u => r = wsum bs P (nI nb) nb ∧ u = (L, f))) 0 0 (pA L f sz) := by
  refine kx_met (by decide) (Nat.le_of_ble_eq_true rfl) ?_
  intro p e s m below meth c hC hnm hw hsz ls hl
  subst hsz
  have hl : lv_has ls 8 [(0, .ref am), (1, .int (nI P)), (2, .int (nI nb))] := hl
  obtain ⟨⟨⟨hx, hb, hml, hown, hts⟩, hret9, hlocks⟩, hK, hE, hA⟩ := id hC
  obtain ⟨⟨ham, hta, hem⟩, ⟨hra, htr, her⟩, hN, hbs, hrow⟩ := id hm
  refine lv_iconst (v := 0) hx hb d_M_weighedSum_0 (by decide) ?_
  refine lv_istore_n (lv' := [(3, .int 0), (0, .ref am), (1, .int (nI P)), (2, .int (nI nb))]) hx hb d_M_weighedSum_1 rfl hl (by decide) rfl (fun ls hl => ?_)
  refine lv_iload_n hx hb d_M_weighedSum_2 rfl (lv_at hl 2 rfl) ?_
  refine lv_sipush (v := 1024) hx hb d_M_weighedSum_3 (by decide) ?_
  refine lv_idiv hx hb d_M_weighedSum_6 (by decide) ?_
  refine tp_i (v := nI (P / 1024)) (pk_div (d := 1024) (by omega) (by decide) (by decide)) ?_
  refine lv_istore (lv' := [(4, .int (nI (P / 1024))), (3, .int 0), (0, .ref am), (1, .int (nI P)), (2, .int (nI nb))]) hx hb d_M_weighedSum_7 hl (by decide) rfl (fun ls hl => ?_)
  have hl : lv_has ls 8 [(4, .int (nI (P / 1024))), (3, .int (wsum bs P (nI nb) (min (P + nb) (max P (P / 1024 * 1024)) - P))), (0, .ref am), (1, .int (nI P)), (2, .int (nI nb))] := by
    rw [show min (P + nb) (max P (P / 1024 * 1024)) - P = 0 by omega]
    exact (lv_sub hl [0, 1, 2, 3, 4] rfl)
  refine lp_weighedSum hm ⟨Nat.zero_le _, Nat.zero_le _⟩ P nb hP hnb hC (Nat.le_of_ble_eq_true rfl) (Nat.le_of_ble_eq_true rfl) (fun H locs ls hw hl => ?_) ((P + nb - 1) / 1024 + 2) (P / 1024) _ _ _ (Nat.le_refl _) (by omega) (by omega) hw hl
  refine lv_iload_n hx hb d_M_weighedSum_102 rfl (lv_at hl 0 rfl) ?_
  exact pg_iret hC.1 hw (⟨rfl, rfl⟩) d_M_weighedSum_103
set_option maxHeartbeats 4000000 in
set_option maxRecDepth 100000 in
theorem c_M_init_none (l : Launch) (D : va_G) (kc : Nat → ClassId) (L : List Nat) (f : Nat → va_E) (sz : Nat) (ma ls9 : Nat) (hma : ma ∈ L) (hem : f ma = .inr (0, [.int 0, .int 0, .null])) : Met l y_M_init w_M_init ({ frames := 1, cells := 1, slots := 1024, locals := 14 }) (PP D kc L f sz [.ref ma, .int (nI ls9), .int (-1)]) (Qv D L f sz (fun u => ∃ ra, ra ∉ L ∧ u = (L ++ [ra], va_up (va_up (va_up f ma (.inr (0, [.int (-1), .int (nI ls9), .null]))) ra (.inl (kc 2, 16 * 64, .inr (.inr (.inr (.inr (fun _ => none))))))) ma (.inr (0, [.int (-1), .int (nI ls9), .ref ra]))))) 1 1024 (pA L f sz) := by
  refine kx_met (by decide) (Nat.le_of_ble_eq_true rfl) ?_
  intro p e s m below meth c hC hnm hw hsz ls hl
  subst hsz
  have hl : lv_has ls 4 [(0, .ref ma), (1, .int (nI ls9)), (2, .int (-1))] := hl
  obtain ⟨⟨⟨hx, hb, hml, hown, hts⟩, hret9, hlocks⟩, hK, hE, hA⟩ := id hC
  refine lv_aload_n hx hb d_M_init_0 rfl (lv_at hl 0 rfl) ?_
  refine callO hC hw hl.1 k_ml_M_3 d_M_init_1 (Nat.le_of_ble_eq_true rfl) (Nat.le_of_ble_eq_true rfl) ?_
  refine lv_aload_n hx hb d_M_init_4 rfl (lv_at hl 0 rfl) ?_
  refine lv_iload_n hx hb d_M_init_5 rfl (lv_at hl 2 rfl) ?_
  refine putF_M hC hw hnm rfl hma hem 0 (by decide) k_fl_M_9 rfl rfl rfl rfl (Nat.le_of_ble_eq_true rfl) d_M_init_6 (fun H locs hw => ?_)
  have hem : va_up f ma (.inr (0, [Value.int (-1), Value.int 0, Value.null])) ma = .inr (0, [Value.int (-1), Value.int 0, Value.null]) := va_up_self _ _ _
  refine lv_aload_n hx hb d_M_init_9 rfl (lv_at hl 0 rfl) ?_
  refine lv_iload_n hx hb d_M_init_10 rfl (lv_at hl 1 rfl) ?_
  refine put_M hC hw hma hem 1 (by decide) k_fl_M_15 rfl rfl rfl (Nat.le_of_ble_eq_true rfl) d_M_init_11 (fun H locs hw => ?_)
  rw [bx_uu] at hw
  refine lv_iload_n hx hb d_M_init_14 rfl (lv_at hl 2 rfl) ?_
  refine lv_iconst (v := (-1)) hx hb d_M_init_15 (by decide) ?_
  refine lv_icmp_ne (tgt := 24) hx hb d_M_init_16 (by decide) (fun c1 => (c1 rfl).elim) (fun c1 => ?_)
  refine lv_bipush (v := 16) hx hb d_M_init_19 (by decide) ?_
  refine lv_goto (tgt := 30) hx hb d_M_init_21 (by decide) ?_
  refine tp_i (v := nI 16) (rfl) ?_
  refine lv_istore_n (lv' := [(3, .int (nI 16)), (0, .ref ma), (1, .int (nI ls9)), (2, .int (-1))]) hx hb d_M_init_30 rfl hl (by decide) rfl (fun ls hl => ?_)
  refine lv_aload_n hx hb d_M_init_31 rfl (lv_at hl 1 rfl) ?_
  refine lv_iload_n hx hb d_M_init_32 rfl (lv_at hl 0 rfl) ?_
  refine lv_iconst (v := 0) hx hb d_M_init_33 (by decide) ?_
  refine tp_i (v := nI 0) (rfl) ?_
  refine kmax (a := 16) (b := 0) hC hl.1 k_ml_M_24 (by omega) (by decide) ⟨Nat.le_of_ble_eq_true rfl, Nat.le_of_ble_eq_true rfl⟩ (⟨Nat.zero_le _, Nat.zero_le _⟩) d_M_init_34 ?_
  refine tp_i (v := nI (16)) (by rw [Nat.max_eq_left (Nat.zero_le _)]) ?_
  refine lv_bipush (v := 64) hx hb d_M_init_37 (by decide) ?_
  refine lv_imul hx hb d_M_init_39 ?_
  refine tp_i (v := nI (16 * 64)) (pk_mul _ 64) ?_
  refine newR hC hw k_cl_M_27 (by omega) (Nat.le_of_ble_eq_true rfl) (show 0 + 16 * 64 ≤ 1024 by omega) d_M_init_40 (fun ra H hra hw => ?_)
  refine putF_M hC hw hnm rfl (mem_l hma) ((va_up_ne _ _ (ne_in hma hra)).trans (va_up_self _ _ _)) 2 (by decide) k_fl_M_29 rfl rfl rfl rfl (Nat.le_of_ble_eq_true rfl) d_M_init_43 (fun H locs hw => ?_)
  refine W.widen (k := 1) (n := 1024) (by omega) (by omega) ?_
  exact pg_vret hC.1 hw (⟨ra, hra, rfl⟩) d_M_init_46
set_option maxHeartbeats 4000000 in
set_option maxRecDepth 100000 in
theorem c_M_init_some (l : Launch) (D : va_G) (kc : Nat → ClassId) (L : List Nat) (f : Nat → va_E) (sz : Nat) (ma ls9 : Nat) (hma : ma ∈ L) (hem : f ma = .inr (0, [.int 0, .int 0, .null])) (q9 : Nat) (hq9 : q9 ≤ 65536) : Met l y_M_init w_M_init ({ frames := 1, cells := 1, slots := 1024, locals := 14 }) (PP D kc L f sz [.ref ma, .int (nI ls9), .int (nI q9)]) (Qv D L f sz (fun u => ∃ ra, ra ∉ L ∧ u = (L ++ [ra], va_up (va_up (va_up f ma (.inr (0, [.int (nI q9), .int (nI ls9), .null]))) ra (.inl (kc 2, min q9 16 * 64, .inr (.inr (.inr (.inr (fun _ => none))))))) ma (.inr (0, [.int (nI q9), .int (nI ls9), .ref ra]))))) 1 1024 (pA L f sz) := by
  refine kx_met (by decide) (Nat.le_of_ble_eq_true rfl) ?_
  intro p e s m below meth c hC hnm hw hsz ls hl
  subst hsz
  have hl : lv_has ls 4 [(0, .ref ma), (1, .int (nI ls9)), (2, .int (nI q9))] := hl
  obtain ⟨⟨⟨hx, hb, hml, hown, hts⟩, hret9, hlocks⟩, hK, hE, hA⟩ := id hC
  refine lv_aload_n hx hb d_M_init_0 rfl (lv_at hl 0 rfl) ?_
  refine callO hC hw hl.1 k_ml_M_3 d_M_init_1 (Nat.le_of_ble_eq_true rfl) (Nat.le_of_ble_eq_true rfl) ?_
  refine lv_aload_n hx hb d_M_init_4 rfl (lv_at hl 0 rfl) ?_
  refine lv_iload_n hx hb d_M_init_5 rfl (lv_at hl 2 rfl) ?_
  refine putF_M hC hw hnm rfl hma hem 0 (by decide) k_fl_M_9 rfl rfl rfl rfl (Nat.le_of_ble_eq_true rfl) d_M_init_6 (fun H locs hw => ?_)
  have hem : va_up f ma (.inr (0, [Value.int (nI q9), Value.int 0, Value.null])) ma = .inr (0, [Value.int (nI q9), Value.int 0, Value.null]) := va_up_self _ _ _
  refine lv_aload_n hx hb d_M_init_9 rfl (lv_at hl 0 rfl) ?_
  refine lv_iload_n hx hb d_M_init_10 rfl (lv_at hl 1 rfl) ?_
  refine put_M hC hw hma hem 1 (by decide) k_fl_M_15 rfl rfl rfl (Nat.le_of_ble_eq_true rfl) d_M_init_11 (fun H locs hw => ?_)
  rw [bx_uu] at hw
  refine lv_iload_n hx hb d_M_init_14 rfl (lv_at hl 2 rfl) ?_
  refine lv_iconst (v := (-1)) hx hb d_M_init_15 (by decide) ?_
  refine lv_icmp_ne (tgt := 24) hx hb d_M_init_16 (by decide) (fun c1 => ?_) (fun c1 => (nI_pos (n := q9) (by omega) (by rw [c1]; decide)).elim)
  refine lv_iload_n hx hb d_M_init_24 rfl (lv_at hl 2 rfl) ?_
  refine lv_bipush (v := 16) hx hb d_M_init_25 (by decide) ?_
  refine tp_i (v := nI 16) (rfl) ?_
  refine kmin (a := q9) (b := 16) hC hl.1 k_ml_M_18 (by omega) (by decide) ⟨Nat.le_of_ble_eq_true rfl, Nat.le_of_ble_eq_true rfl⟩ (⟨Nat.zero_le _, Nat.zero_le _⟩) d_M_init_27 ?_
  refine lv_istore_n (lv' := [(3, .int (nI (min q9 16))), (0, .ref ma), (1, .int (nI ls9)), (2, .int (nI q9))]) hx hb d_M_init_30 rfl hl (by decide) rfl (fun ls hl => ?_)
  refine lv_aload_n hx hb d_M_init_31 rfl (lv_at hl 1 rfl) ?_
  refine lv_iload_n hx hb d_M_init_32 rfl (lv_at hl 0 rfl) ?_
  refine lv_iconst (v := 0) hx hb d_M_init_33 (by decide) ?_
  refine tp_i (v := nI 0) (rfl) ?_
  refine kmax (a := min q9 16) (b := 0) hC hl.1 k_ml_M_24 (by omega) (by decide) ⟨Nat.le_of_ble_eq_true rfl, Nat.le_of_ble_eq_true rfl⟩ (⟨Nat.zero_le _, Nat.zero_le _⟩) d_M_init_34 ?_
  refine tp_i (v := nI (min q9 16)) (by rw [Nat.max_eq_left (Nat.zero_le _)]) ?_
  refine lv_bipush (v := 64) hx hb d_M_init_37 (by decide) ?_
  refine lv_imul hx hb d_M_init_39 ?_
  refine tp_i (v := nI ((min q9 16) * 64)) (pk_mul _ 64) ?_
  refine newR hC hw k_cl_M_27 (by omega) (Nat.le_of_ble_eq_true rfl) (show 0 + (min q9 16) * 64 ≤ 1024 by omega) d_M_init_40 (fun ra H hra hw => ?_)
  refine putF_M hC hw hnm rfl (mem_l hma) ((va_up_ne _ _ (ne_in hma hra)).trans (va_up_self _ _ _)) 2 (by decide) k_fl_M_29 rfl rfl rfl rfl (Nat.le_of_ble_eq_true rfl) d_M_init_43 (fun H locs hw => ?_)
  refine W.widen (k := 1) (n := 1024) (by omega) (by omega) ?_
  exact pg_vret hC.1 hw (⟨ra, hra, rfl⟩) d_M_init_46
