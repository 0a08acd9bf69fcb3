/-! Memory: clear, readInto -/
def clr (h : Nat → Int32) (a i : Nat) : Nat → Int32 := fun j => if a ≤ j ∧ j < i then 0 else h j
theorem clr_0 (h : Nat → Int32) (a : Nat) : clr h a a = h := by
  funext j
  unfold clr
  rw [if_neg (by omega)]
theorem clr_s (h : Nat → Int32) {a i : Nat} (hi : a ≤ i) : upd (clr h a i) i 0 = clr h a (i + 1) := by
  funext j
  by_cases e : j = i
  · subst e; rw [pk_us]; unfold clr; rw [if_pos (by omega)]
  · rw [pk_un e]; unfold clr
    by_cases q : a ≤ j ∧ j < i
    · rw [if_pos q, if_pos (by omega)]
    · rw [if_neg q, if_neg (by omega)]
set_option maxHeartbeats 4000000 in
set_option maxRecDepth 100000 in
theorem lp_clear {p : Program} {l : Launch} {e : Env} {R : Room} {s : State} {m : MethodId} {args : Array Value} {below : List Frame} {meth : Method} {c : Code} {Q : State → Prop} {A : Nat → Prop} {D : va_G} {kc : Nat → ClassId} {c0 : Cond} {ret : Option FieldType} {L : List Nat} {f : Nat → va_E} {cells slots : Nat} (hcs : cells ≤ R.cells ∧ slots ≤ R.slots) {ar nn a b : Nat} {h : Nat → Int32} (har : ar ∈ L) (hnn : nn < 2 ^ 31) (hab : a ≤ b) (hb9 : b ≤ nn) (hC : Kx p m c b_M_clear 4 s args c0 R_M meth ret D kc A) (hRf : 1 ≤ R.frames) (hRl : 14 ≤ R.locals)
    (kont : ∀ (H : Heap) (locs : List Loc) (ls : Array Slot), pw D Cls A s.heap H locs L (va_up f ar (.inl (kc 0, nn, .inl (clr h a b)))) → W p l e R s m args below meth c H locs cells slots Q (F0 m 26 ls [])) :
    ∀ (n : Nat) (i : Nat) (H : Heap) (locs : List Loc) (ls : Array Slot), a ≤ i → i ≤ b → b + 1 ≤ i + n → pw D Cls A s.heap H locs L (va_up f ar (.inl (kc 0, nn, .inl (clr h a i)))) → lv_has ls 4 [(3, .int (nI i)), (0, .ref ar), (1, .int (nI a)), (2, .int (nI b))] → W p l e R s m args below meth c H locs cells slots Q (F0 m 6 ls []) := by
  obtain ⟨⟨⟨hx, hb, hml, hown, hts⟩, hret9, hlocks⟩, hK, hE, hA⟩ := id hC
  intro n
  induction n with
  | zero => intro i H locs ls ha9 hi hin hw hl; exact absurd hin (by omega)
  | succ n ih =>
    intro i H locs ls ha9 hi hin hw hl
    refine lv_iload_n hx hb d_M_clear_6 rfl (lv_at hl 0 rfl) ?_
    refine lv_iload_n hx hb d_M_clear_7 rfl (lv_at hl 3 rfl) ?_
    refine lv_aload_n hx hb d_M_clear_8 rfl (lv_at hl 1 rfl) ?_
    refine len_B hC hw har (va_up_self _ _ _) d_M_clear_9 ?_
    refine kmin (a := b) (b := nn) hC hl.1 k_ml_M_18 (by omega) (hnn) ⟨Nat.le_trans (Nat.le_of_ble_eq_true rfl) hRf, Nat.le_trans (Nat.le_of_ble_eq_true rfl) hRl⟩ (hcs) d_M_clear_10 ?_
    refine tp_i (v := nI b) (by rw [Nat.min_eq_left hb9]) ?_
    refine lv_icmp_ge (tgt := 26) hx hb d_M_clear_13 (by decide) (fun c1 => ?_) (fun c1 => ?_)
    · have e : i = b := by
        rcases Nat.lt_or_ge i b with q | q
        · exact absurd c1 (nI_ge q (by omega))
        · omega
      subst e
      exact kont H locs ls hw
    · have hlt : i < b := by
        rcases Nat.lt_or_ge i b with q | q
        · exact q
        · exact absurd (nI_le q (by omega)) c1
      refine lv_aload_n hx hb d_M_clear_16 rfl (lv_at hl 1 rfl) ?_
      refine lv_iload_n hx hb d_M_clear_17 rfl (lv_at hl 0 rfl) ?_
      refine lv_iconst (v := 0) hx hb d_M_clear_18 (by decide) ?_
      refine ast_B hC hw har (va_up_self _ _ _) (y := 0) (by decide) (show i < nn by omega) hnn d_M_clear_19 (fun H locs hw => ?_)
      rw [bx_uu, clr_s h (by omega)] at hw
      refine lv_iinc (v := nI (i + 1)) (lv' := [(3, .int (nI (i + 1))), (0, .ref ar), (1, .int (nI a)), (2, .int (nI b))]) hx hb d_M_clear_20 hl (k := 0) rfl (nI_1 i) (by decide) rfl (fun ls hl => ?_)
      refine lv_goto (tgt := 6) hx hb d_M_clear_23 (by decide) ?_
      exact ih (i + 1) _ _ _ (by omega) (by omega) (by omega) hw (lv_sub hl [0, 1, 2, 3] rfl)
set_option maxHeartbeats 4000000 in
set_option maxRecDepth 100000 in
theorem c_M_clear (l : Launch) (D : va_G) (kc : Nat → ClassId) (L : List Nat) (f : Nat → va_E) (sz : Nat) (ar nn a b : Nat) (h : Nat → Int32) (har : ar ∈ L) (hear : f ar = .inl (kc 0, nn, .inl h)) (hnn : nn < 2 ^ 31) (hab : a ≤ b) (hb9 : b ≤ nn) : Met l y_M_clear w_M_clear ({ frames := 1, cells := 0, slots := 0, locals := 14 }) (PP D kc L f sz [.ref ar, .int (nI a), .int (nI b)]) (Qv D L f sz (fun u => u = (L, va_up f ar (.inl (kc 0, nn, .inl (clr h a b)))))) 0 0 (pA L f sz) := by
  refine kx_met (by decide) (Nat.le_of_ble_eq_true rfl) ?_
  intro p e s m below meth c hC hnm hw hsz ls hl
  subst hsz
  have hl : lv_has ls 4 [(0, .ref ar), (1, .int (nI a)), (2, .int (nI b))] := hl
  obtain ⟨⟨⟨hx, hb, hml, hown, hts⟩, hret9, hlocks⟩, hK, hE, hA⟩ := id hC
  refine lv_iload_n hx hb d_M_clear_0 rfl (lv_at hl 1 rfl) ?_
  refine lv_iconst (v := 0) hx hb d_M_clear_1 (by decide) ?_
  refine tp_i (v := nI 0) (rfl) ?_
  refine kmax (a := a) (b := 0) hC hl.1 k_ml_M_24 (by omega) (by decide) ⟨Nat.le_of_ble_eq_true rfl, Nat.le_of_ble_eq_true rfl⟩ (⟨Nat.zero_le _, Nat.zero_le _⟩) d_M_clear_2 ?_
  refine tp_i (v := nI a) (by rw [Nat.max_eq_left (Nat.zero_le _)]) ?_
  refine lv_istore_n (lv' := [(3, .int (nI a)), (0, .ref ar), (1, .int (nI a)), (2, .int (nI b))]) hx hb d_M_clear_5 rfl hl (by decide) rfl (fun ls hl => ?_)
  have hw := pw_congr (g := va_up f ar (.inl (kc 0, nn, .inl (clr h a a)))) hw (fun x => by
    by_cases q : x = ar
    · rw [q, va_up_self, clr_0]; exact hear
    · rw [va_up_ne _ _ q])
  refine lp_clear ⟨Nat.zero_le _, Nat.zero_le _⟩ har hnn hab hb9 hC (Nat.le_of_ble_eq_true rfl) (Nat.le_of_ble_eq_true rfl) (fun H locs ls hw => ?_) (b + 1) a _ _ _ (Nat.le_refl _) hab (by omega) hw (lv_sub hl [0, 1, 2, 3] rfl)
  exact pg_vret hC.1 hw (rfl) d_M_clear_26
set_option maxHeartbeats 4000000 in
set_option maxRecDepth 100000 in
theorem lp_readInto {p : Program} {l : Launch} {e : Env} {R : Room} {s : State} {m : MethodId} {args : Array Value} {below : List Frame} {meth : Method} {c : Code} {Q : State → Prop} {A : Nat → Prop} {D : va_G} {kc : Nat → ClassId} {c0 : Cond} {ret : Option FieldType} {L : List Nat} {f : Nat → va_E} {tg : Nat → Nat × Nat} {k am ra : Nat} {mo : Int32} {pg N : Nat} {g : Nat → Option Nat} {bs : Nat → Nat} (hm : memG kc L f tg k am ra mo pg N g bs) {cells slots : Nat} (hcs : cells ≤ R.cells ∧ slots ≤ R.slots) (ia P nb : Nat) (hiL : ia ∈ L) (hia : (tg ia).1 ≠ k) (hP : P + nb ≤ 1024 * N) (hnb : 0 < nb ∧ nb ≤ 4096) (hC : Kx p m c b_M_readInto 8 s args c0 R_M meth ret D kc A) (hRf : 2 ≤ R.frames) (hRl : 37 ≤ R.locals)
    (kont : ∀ (H : Heap) (locs : List Loc) (ls : Array Slot) (h' : Nat → Int32), (∀ j, j < nb → h' j = sb_b (bs (P + j))) → pw D Cls A s.heap H locs L (va_up f ia (.inl (kc 0, 4096, .inl h'))) → W p l e R s m args below meth c H locs cells slots Q (F0 m 110 ls [])) :
    ∀ (n : Nat) (r : Nat) (H : Heap) (locs : List Loc) (ls : Array Slot) (h' : Nat → Int32), P / 1024 ≤ r → r ≤ (P + nb - 1) / 1024 + 1 → (P + nb - 1) / 1024 + 2 ≤ r + n → (∀ j, j < min (P + nb) (max P (r * 1024)) - P → h' j = sb_b (bs (P + j))) → pw D Cls A s.heap H locs L (va_up f ia (.inl (kc 0, 4096, .inl h'))) → lv_has ls 8 [(4, .int (nI r)), (0, .ref am), (1, .ref ia), (2, .int (nI P)), (3, .int (nI nb))] → W p l e R s m args below meth c H locs cells slots Q (F0 m 7 ls []) := by
  obtain ⟨⟨⟨hx, hb, hml, hown, hts⟩, hret9, hlocks⟩, hK, hE, hA⟩ := id hC
  intro n
  induction n with
  | zero => intro r H locs ls h' hr0 hr1 hin hd hw hl; exact absurd hin (by omega)
  | succ n ih =>
    intro r H locs ls h' hr0 hr1 hin hd hw hl
    obtain ⟨⟨ham, hta, hem⟩, ⟨hra, htr, her⟩, hN, hbs, hrow⟩ := id hm
    have hmi := memG_ext hm (u := (L, va_up f ia (.inl (kc 0, 4096, .inl h')))) (tg' := tg) (S := fun i => i = (tg ia).1) (Ext_up rfl) (fun e => hia e.symm)
    obtain ⟨⟨ham2, -, hem2⟩, ⟨hra2, -, her2⟩, -, -, hrow2⟩ := id hmi
    dsimp only at ham2 hem2 hra2 her2 hrow2
    refine lv_iload hx hb d_M_readInto_7 (lv_at hl 0 rfl) ?_
    refine lv_iload_n hx hb d_M_readInto_9 rfl (lv_at hl 3 rfl) ?_
    refine lv_iload_n hx hb d_M_readInto_10 rfl (lv_at hl 4 rfl) ?_
    refine lv_iadd hx hb d_M_readInto_11 ?_
    refine tp_i (v := nI (P + nb)) (nI_add P nb) ?_
    refine lv_iconst (v := 1) hx hb d_M_readInto_12 (by decide) ?_
    refine lv_isub hx hb d_M_readInto_13 ?_
    refine tp_i (v := nI (P + nb - 1)) (pk_sub (b := 1) (by omega)) ?_
    refine lv_sipush (v := 1024) hx hb d_M_readInto_14 (by decide) ?_
    refine lv_idiv hx hb d_M_readInto_17 (by decide) ?_
    refine tp_i (v := nI ((P + nb - 1) / 1024)) (pk_div (d := 1024) (by omega) (by decide) (by decide)) ?_
    refine lv_icmp_gt (tgt := 110) hx hb d_M_readInto_18 (by decide) (fun c1 => ?_) (fun c1 => ?_)
    · have e : (P + nb - 1) / 1024 < r := by
        rcases Nat.lt_or_ge ((P + nb - 1) / 1024) r with q | q
        · exact q
        · exact absurd c1 (nI_nlt q (by omega))
      exact kont H locs ls h' (fun j hj => hd j (by omega)) hw
    · have hlt : r ≤ (P + nb - 1) / 1024 := by
        rcases Nat.lt_or_ge ((P + nb - 1) / 1024) r with q | q
        · exact absurd (nI_lt q (by omega)) c1
        · exact q
      have hrN : r < N := by omega
      refine lv_iload_n hx hb d_M_readInto_21 rfl (lv_at hl 3 rfl) ?_
      refine lv_iload hx hb d_M_readInto_22 (lv_at hl 0 rfl) ?_
      refine lv_sipush (v := 1024) hx hb d_M_readInto_24 (by decide) ?_
      refine lv_imul hx hb d_M_readInto_27 ?_
      refine tp_i (v := nI (r * 1024)) (pk_mul r 1024) ?_
      refine kmax (a := P) (b := r * 1024) hC hl.1 k_ml_M_24 (by omega) (by omega) ⟨Nat.le_trans (Nat.le_of_ble_eq_true rfl) hRf, Nat.le_trans (Nat.le_of_ble_eq_true rfl) hRl⟩ (hcs) d_M_readInto_28 ?_
      refine lv_istore (lv' := [(5, .int (nI (max P (r * 1024)))), (4, .int (nI r)), (0, .ref am), (1, .ref ia), (2, .int (nI P)), (3, .int (nI nb))]) hx hb d_M_readInto_31 hl (by decide) rfl (fun ls hl => ?_)
      refine lv_iload_n hx hb d_M_readInto_33 rfl (lv_at hl 4 rfl) ?_
      refine lv_iload_n hx hb d_M_readInto_34 rfl (lv_at hl 5 rfl) ?_
      refine lv_iadd hx hb d_M_readInto_35 ?_
      refine tp_i (v := nI (P + nb)) (nI_add P nb) ?_
      refine lv_iload hx hb d_M_readInto_36 (lv_at hl 1 rfl) ?_
      refine lv_iconst (v := 1) hx hb d_M_readInto_38 (by decide) ?_
      refine lv_iadd hx hb d_M_readInto_39 ?_
      refine tp_i (v := nI (r + 1)) (nI_1 r) ?_
      refine lv_sipush (v := 1024) hx hb d_M_readInto_40 (by decide) ?_
      refine lv_imul hx hb d_M_readInto_43 ?_
      refine tp_i (v := nI ((r + 1) * 1024)) (pk_mul (r + 1) 1024) ?_
      refine kmin (a := P + nb) (b := (r + 1) * 1024) hC hl.1 k_ml_M_18 (by omega) (by omega) ⟨Nat.le_trans (Nat.le_of_ble_eq_true rfl) hRf, Nat.le_trans (Nat.le_of_ble_eq_true rfl) hRl⟩ (hcs) d_M_readInto_44 ?_
      refine lv_istore (lv' := [(6, .int (nI (min (P + nb) ((r + 1) * 1024)))), (5, .int (nI (max P (r * 1024)))), (4, .int (nI r)), (0, .ref am), (1, .ref ia), (2, .int (nI P)), (3, .int (nI nb))]) hx hb d_M_readInto_47 hl (by decide) rfl (fun ls hl => ?_)
      refine lv_aload_n hx hb d_M_readInto_49 rfl (lv_at hl 3 rfl) ?_
      refine lv_iload hx hb d_M_readInto_50 (lv_at hl 2 rfl) ?_
      refine callVq (As := [.int (nI r)]) (n9 := 1) hC hw (c_M_rowOrNull l D kc _ _ _ am ra mo pg N g ham2 hem2 hra2 her2 hN r hrN) k_co_M_rowOrNull k_ml_M_44 k_im_M_rowOrNull k_se_M_rowOrNull k_in_M rfl rfl (by decide +kernel) rfl ⟨Nat.le_trans (Nat.le_of_ble_eq_true rfl) hRf, Nat.le_trans (Nat.le_of_ble_eq_true rfl) hRl⟩ ham2 hem2 rfl hl.1 rfl (Nat.le_of_ble_eq_true rfl) d_M_readInto_52 ⟨hcs.1, hcs.2⟩ (fun o u H locs hp hw => ?_)
      obtain ⟨rfl, rfl⟩ := hp
      rcases hrow2 r hrN with ⟨hg, hz⟩ | ⟨w9, b9, hh, hg, hw9, htw, hfw, hb9, htb, hfb, hv⟩
      · refine tp_v (v := .null) (by rw [hg]; rfl) ?_
        refine lv_astoreN (lv' := [(7, .null), (6, .int (nI (min (P + nb) ((r + 1) * 1024)))), (5, .int (nI (max P (r * 1024)))), (4, .int (nI r)), (0, .ref am), (1, .ref ia), (2, .int (nI P)), (3, .int (nI nb))]) hx hb d_M_readInto_55 hl (by decide) rfl (fun ls hl => ?_)
        refine lv_aloadN hx hb d_M_readInto_57 (lv_at hl 0 rfl) ?_
        refine lv_ifnonnullN hx hb d_M_readInto_59 ?_
        refine lv_aload_n hx hb d_M_readInto_62 rfl (lv_at hl 5 rfl) ?_
        refine lv_iload hx hb d_M_readInto_63 (lv_at hl 2 rfl) ?_
        refine lv_iload_n hx hb d_M_readInto_65 rfl (lv_at hl 6 rfl) ?_
        refine lv_isub hx hb d_M_readInto_66 ?_
        refine tp_i (v := nI (max P (r * 1024) - P)) (pk_sub (Nat.le_max_left _ _)) ?_
        refine lv_iload hx hb d_M_readInto_67 (lv_at hl 1 rfl) ?_
        refine lv_iload_n hx hb d_M_readInto_69 rfl (lv_at hl 6 rfl) ?_
        refine lv_isub hx hb d_M_readInto_70 ?_
        refine tp_i (v := nI (min (P + nb) ((r + 1) * 1024) - P)) (pk_sub (by omega)) ?_
        refine callSv (As := [.ref ia, .int (nI (max P (r * 1024) - P)), .int (nI (min (P + nb) ((r + 1) * 1024) - P))]) (n9 := 3) hC hw (c_M_clear l D kc _ _ _ ia 4096 (max P (r * 1024) - P) (min (P + nb) ((r + 1) * 1024) - P) h' hiL (va_up_self _ _ _) (by decide) (by omega) (by omega)) k_co_M_clear k_ml_M_48 k_sm_M_clear k_in_M rfl rfl (by decide +kernel) rfl ⟨Nat.le_trans (Nat.le_of_ble_eq_true rfl) hRf, Nat.le_trans (Nat.le_of_ble_eq_true rfl) hRl⟩ hl.1 rfl (Nat.le_of_ble_eq_true rfl) d_M_readInto_71 ⟨hcs.1, hcs.2⟩ (fun u H locs hp hw => ?_)
        subst hp
        dsimp only at hw
        rw [bx_uu] at hw
        refine lv_goto (tgt := 104) hx hb d_M_readInto_74 (by decide) ?_
        refine lv_iinc (v := nI (r + 1)) (lv' := [(4, .int (nI (r + 1))), (7, .null), (6, .int (nI (min (P + nb) ((r + 1) * 1024)))), (5, .int (nI (max P (r * 1024)))), (0, .ref am), (1, .ref ia), (2, .int (nI P)), (3, .int (nI nb))]) hx hb d_M_readInto_104 hl (k := 3) rfl (nI_1 r) (by decide) rfl (fun ls hl => ?_)
        refine lv_goto (tgt := 7) hx hb d_M_readInto_107 (by decide) ?_
        refine ih (r + 1) _ _ _ _ (by omega) (by omega) (by omega) (fun j hj => ?_) hw (lv_sub hl [0, 4, 5, 6, 7] rfl)
        unfold clr
        by_cases q : max P (r * 1024) - P ≤ j ∧ j < min (P + nb) ((r + 1) * 1024) - P
        · rw [if_pos q, show P + j = 1024 * r + (P + j - 1024 * r) by omega, hz _ (by omega)]; rfl
        · rw [if_neg q]; exact hd j (by omega)
      · refine tp_v (v := .ref w9) (by rw [hg]; rfl) ?_
        refine lv_astore (lv' := [(7, .ref w9), (6, .int (nI (min (P + nb) ((r + 1) * 1024)))), (5, .int (nI (max P (r * 1024)))), (4, .int (nI r)), (0, .ref am), (1, .ref ia), (2, .int (nI P)), (3, .int (nI nb))]) hx hb d_M_readInto_55 hl (by decide) rfl (fun ls hl => ?_)
        refine lv_aload hx hb d_M_readInto_57 (lv_at hl 0 rfl) ?_
        refine lv_ifnonnull (tgt := 77) hx hb d_M_readInto_59 (by decide) ?_
        refine lv_aload hx hb d_M_readInto_77 (lv_at hl 0 rfl) ?_
        refine get_W hC hw hw9 hfw 0 (by decide) k_fl_M_52 rfl d_M_readInto_79 ?_
        refine lv_iload hx hb d_M_readInto_82 (lv_at hl 2 rfl) ?_
        refine lv_iload hx hb d_M_readInto_84 (lv_at hl 3 rfl) ?_
        refine lv_sipush (v := 1024) hx hb d_M_readInto_86 (by decide) ?_
        refine lv_imul hx hb d_M_readInto_89 ?_
        refine tp_i (v := nI (r * 1024)) (pk_mul r 1024) ?_
        refine lv_isub hx hb d_M_readInto_90 ?_
        refine tp_i (v := nI (max P (r * 1024) - r * 1024)) (pk_sub (Nat.le_max_right _ _)) ?_
        refine lv_aload_n hx hb d_M_readInto_91 rfl (lv_at hl 5 rfl) ?_
        refine lv_iload hx hb d_M_readInto_92 (lv_at hl 2 rfl) ?_
        refine lv_iload_n hx hb d_M_readInto_94 rfl (lv_at hl 6 rfl) ?_
        refine lv_isub hx hb d_M_readInto_95 ?_
        refine tp_i (v := nI (max P (r * 1024) - P)) (pk_sub (Nat.le_max_left _ _)) ?_
        refine lv_iload hx hb d_M_readInto_96 (lv_at hl 1 rfl) ?_
        refine lv_iload hx hb d_M_readInto_98 (lv_at hl 2 rfl) ?_
        refine lv_isub hx hb d_M_readInto_100 ?_
        refine tp_i (v := nI (min (P + nb) ((r + 1) * 1024) - max P (r * 1024))) (pk_sub (by omega)) ?_
        have hbi : b9 ≠ ia := fun e => by rw [e] at htb; exact hia (by rw [htb])
        refine kcopy hC hw hl.1 k_ml_M_56 hb9 hfb hiL (va_up_self _ _ _) (by decide) (by decide) (by omega) (by omega) (fun i hi => by rw [hv _ (by omega)]; exact sb_fitB _) ⟨Nat.le_trans (Nat.le_of_ble_eq_true rfl) hRf, Nat.le_trans (Nat.le_of_ble_eq_true rfl) hRl⟩ d_M_readInto_101 (fun H locs hw => ?_)
        rw [bx_uu] at hw
        refine lv_iinc (v := nI (r + 1)) (lv' := [(4, .int (nI (r + 1))), (7, .ref w9), (6, .int (nI (min (P + nb) ((r + 1) * 1024)))), (5, .int (nI (max P (r * 1024)))), (0, .ref am), (1, .ref ia), (2, .int (nI P)), (3, .int (nI nb))]) hx hb d_M_readInto_104 hl (k := 3) rfl (nI_1 r) (by decide) rfl (fun ls hl => ?_)
        refine lv_goto (tgt := 7) hx hb d_M_readInto_107 (by decide) ?_
        refine ih (r + 1) _ _ _ _ (by omega) (by omega) (by omega) (fun j hj => ?_) hw (lv_sub hl [0, 4, 5, 6, 7] rfl)
        by_cases q : max P (r * 1024) - P ≤ j
        · rw [pk_cpy_in q (by omega), hv _ (by omega)]
          congr 2
          omega
        · rw [pk_cpy_out (Or.inl (by omega))]; exact hd j (by omega)
set_option maxHeartbeats 4000000 in
set_option maxRecDepth 100000 in
theorem c_M_readInto (l : Launch) (D : va_G) (kc : Nat → ClassId) (L : List Nat) (f : Nat → va_E) (sz : Nat) (tg : Nat → Nat × Nat) (k am ra : Nat) (mo : Int32) (pg N : Nat) (g : Nat → Option Nat) (bs : Nat → Nat) (hm : memG kc L f tg k am ra mo pg N g bs) (ia P nb : Nat) (h : Nat → Int32) (hiL : ia ∈ L) (hei : f ia = .inl (kc 0, 4096, .inl h)) (hia : (tg ia).1 ≠ k) (hP : P + nb ≤ 1024 * N) (hnb : 0 < nb ∧ nb ≤ 4096) : Met l y_M_readInto w_M_readInto ({ frames := 2, cells := 0, slots := 0, locals := 37 }) (PP D kc L f sz [.ref am, .ref ia, .int (nI P), .int (nI nb)]) (Qv D L f sz (fun u => ∃ h', u = (L, va_up f ia (.inl (kc 0, 4096, .inl h'))) ∧ ∀ j, j < nb → h' j = sb_b (bs (P + j)))) 0 0 (pA L f sz) := by
  refine kx_met (by decide) (Nat.le_of_ble_eq_true rfl) ?_
  intro p e s m below meth c hC hnm hw hsz ls hl
  subst hsz
  have hl : lv_has ls 8 [(0, .ref am), (1, .ref ia), (2, .int (nI P)), (3, .int (nI nb))] := hl
  obtain ⟨⟨⟨hx, hb, hml, hown, hts⟩, hret9, hlocks⟩, hK, hE, hA⟩ := id hC
  obtain ⟨⟨ham, hta, hem⟩, ⟨hra, htr, her⟩, hN, hbs, hrow⟩ := id hm
  refine lv_iload_n hx hb d_M_readInto_0 rfl (lv_at hl 2 rfl) ?_
  refine lv_sipush (v := 1024) hx hb d_M_readInto_1 (by decide) ?_
  refine lv_idiv hx hb d_M_readInto_4 (by decide) ?_
  refine tp_i (v := nI (P / 1024)) (pk_div (d := 1024) (by omega) (by decide) (by decide)) ?_
  refine lv_istore (lv' := [(4, .int (nI (P / 1024))), (0, .ref am), (1, .ref ia), (2, .int (nI P)), (3, .int (nI nb))]) hx hb d_M_readInto_5 hl (by decide) rfl (fun ls hl => ?_)
  have hw := pw_congr (g := va_up f ia (.inl (kc 0, 4096, .inl h))) hw (fun x => by
    by_cases q : x = ia
    · rw [q, va_up_self]; exact hei
    · rw [va_up_ne _ _ q])
  refine lp_readInto hm ⟨Nat.zero_le _, Nat.zero_le _⟩ ia P nb hiL hia hP hnb hC (Nat.le_of_ble_eq_true rfl) (Nat.le_of_ble_eq_true rfl) (fun H locs ls h2 hd hw => ?_) ((P + nb - 1) / 1024 + 2) (P / 1024) _ _ _ h (Nat.le_refl _) (by omega) (by omega) (fun j hj => by omega) hw (lv_sub hl [0, 1, 2, 3, 4] rfl)
  exact pg_vret hC.1 hw (⟨h2, rfl, hd⟩) d_M_readInto_110
