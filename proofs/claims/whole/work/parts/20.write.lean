/-! Memory: writeFrom, sums, the constructor -/
/-- n bytes from P on are those of src -/
def cpN (bs : Nat → Nat) (P n : Nat) (src : Nat → Nat) : Nat → Nat := fun j => if P ≤ j ∧ j < P + n then src (j - P) else bs j
theorem cpN_lt {bs src : Nat → Nat} (hb : ∀ j, bs j < 256) {P n : Nat} (hs : ∀ j, j < n → src j < 256) (j : Nat) : cpN bs P n src j < 256 := by
  unfold cpN
  by_cases q : P ≤ j ∧ j < P + n
  · rw [if_pos q]; exact hs _ (by omega)
  · rw [if_neg q]; exact hb j
theorem cpN_in {bs src : Nat → Nat} {P n j : Nat} (h : P ≤ j ∧ j < P + n) : cpN bs P n src j = src (j - P) := by unfold cpN; rw [if_pos h]
theorem cpN_out {bs src : Nat → Nat} {P n j : Nat} (h : ¬ (P ≤ j ∧ j < P + n)) : cpN bs P n src j = bs j := by unfold cpN; rw [if_neg h]
set_option maxHeartbeats 4000000 in
set_option maxRecDepth 100000 in
theorem lp_writeFrom {p : Program} {l : Launch} {e : Env} {R : Room} {s : State} {m : MethodId} {args : Array Value} {below : List Frame} {meth : Method} {c : Code} {Q : State → Prop} {A : Nat → Prop} {D : va_G} {kc : Nat → ClassId} {c0 : Cond} {ret : Option FieldType} {L : List Nat} {f : Nat → va_E} {tg : Nat → Nat × Nat} {k am ra : Nat} {mo : Int32} {pg N : Nat} {bs src : Nat → Nat} {hs : Nat → Int32} (hcs : 10 ≤ R.cells ∧ 5125 ≤ R.slots) (ia P nb : Nat) (hiL : ia ∈ L) (hei : f ia = .inl (kc 0, 4096, .inl hs)) (hia : (tg ia).1 ≠ k) (hsr : ∀ j, j < nb → hs j = sb_b (src j)) (hsl : ∀ j, j < nb → src j < 256) (hb0 : ∀ j, bs j < 256) (hP : P + nb ≤ 1024 * N) (hnb : 0 < nb ∧ nb ≤ 4096) (hN9 : N ≤ 1024) (hC : Kx p m c b_M_writeFrom 8 s args c0 R_M meth ret D kc A) (hRf : 3 ≤ R.frames) (hRl : 53 ≤ R.locals)
    (kont : ∀ (c9 : Nat) (L' : List Nat) (f' : Nat → va_E) (tg' : Nat → Nat × Nat) (g' : Nat → Option Nat) (H : Heap) (locs : List Loc) (ls : Array Slot), c9 ≤ 5 → memG kc L' f' tg' k am ra mo pg N g' (cpN bs P nb src) → Ext (fun i => i = k) L f tg (L', f') tg' → pw D Cls A s.heap H locs L' f' → W p l e R s m args below meth c H locs (2 * c9) (1025 * c9) Q (F0 m 95 ls [])) :
    ∀ (n : Nat) (r : Nat) (c9 : Nat) (L' : List Nat) (f' : Nat → va_E) (tg' : Nat → Nat × Nat) (g' : Nat → Option Nat) (H : Heap) (locs : List Loc) (ls : Array Slot), P / 1024 ≤ r → r ≤ (P + nb - 1) / 1024 + 1 → (P + nb - 1) / 1024 + 2 ≤ r + n → c9 ≤ r - P / 1024 → memG kc L' f' tg' k am ra mo pg N g' (cpN bs P (min (P + nb) (max P (r * 1024)) - P) src) → Ext (fun i => i = k) L f tg (L', f') tg' → pw D Cls A s.heap H locs L' f' → lv_has ls 8 [(4, .int (nI r)), (0, .ref am), (1, .ref ia), (2, .int (nI P)), (3, .int (nI nb))] → W p l e R s m args below meth c H locs (2 * c9) (1025 * c9) Q (F0 m 7 ls []) := by
  obtain ⟨⟨⟨hx, hb, hml, hown, hts⟩, hret9, hlocks⟩, hK, hE, hA⟩ := id hC
  intro n
  induction n with
  | zero => intro r c9 L' f' tg' g' H locs ls hr0 hr1 hin hc9 hm he hw hl; exact absurd hin (by omega)
  | succ n ih =>
    intro r c9 L' f' tg' g' H locs ls hr0 hr1 hin hc9 hm he hw hl
    obtain ⟨⟨ham, hta, hem⟩, ⟨hra, htr, her⟩, hN, hbs, hrow⟩ := id hm
    have hiL9 : ia ∈ L' := he.1 ia hiL
    have hei9 : f' ia = .inl (kc 0, 4096, .inl hs) := by rw [show f' ia = f ia from he.2.2.1 ia hiL hia]; exact hei
    refine lv_iload hx hb d_M_writeFrom_7 (lv_at hl 0 rfl) ?_
    refine lv_iload_n hx hb d_M_writeFrom_9 rfl (lv_at hl 3 rfl) ?_
    refine lv_iload_n hx hb d_M_writeFrom_10 rfl (lv_at hl 4 rfl) ?_
    refine lv_iadd hx hb d_M_writeFrom_11 ?_
    refine tp_i (v := nI (P + nb)) (nI_add P nb) ?_
    refine lv_iconst (v := 1) hx hb d_M_writeFrom_12 (by decide) ?_
    refine lv_isub hx hb d_M_writeFrom_13 ?_
    refine tp_i (v := nI (P + nb - 1)) (pk_sub (b := 1) (by omega)) ?_
    refine lv_sipush (v := 1024) hx hb d_M_writeFrom_14 (by decide) ?_
    refine lv_idiv hx hb d_M_writeFrom_17 (by decide) ?_
    refine tp_i (v := nI ((P + nb - 1) / 1024)) (pk_div (d := 1024) (by omega) (by decide) (by decide)) ?_
    refine lv_icmp_gt (tgt := 95) hx hb d_M_writeFrom_18 (by decide) (fun c1 => ?_) (fun c1 => ?_)
    · have e : (P + nb - 1) / 1024 < r := by
        rcases Nat.lt_or_ge ((P + nb - 1) / 1024) r with q | q
        · exact q
        · exact absurd c1 (nI_nlt q (by omega))
      rw [show min (P + nb) (max P (r * 1024)) - P = nb by omega] at hm
      exact kont c9 L' f' tg' g' H locs ls (by omega) hm he hw
    · have hlt : r ≤ (P + nb - 1) / 1024 := by
        rcases Nat.lt_or_ge ((P + nb - 1) / 1024) r with q | q
        · exact absurd (nI_lt q (by omega)) c1
        · exact q
      have hrN : r < N := by omega
      refine lv_iload_n hx hb d_M_writeFrom_21 rfl (lv_at hl 3 rfl) ?_
      refine lv_iload hx hb d_M_writeFrom_22 (lv_at hl 0 rfl) ?_
      refine lv_sipush (v := 1024) hx hb d_M_writeFrom_24 (by decide) ?_
      refine lv_imul hx hb d_M_writeFrom_27 ?_
      refine tp_i (v := nI (r * 1024)) (pk_mul r 1024) ?_
      refine kmax (a := P) (b := r * 1024) hC hl.1 k_ml_M_24 (by omega) (by omega) ⟨Nat.le_trans (Nat.le_of_ble_eq_true rfl) hRf, Nat.le_trans (Nat.le_of_ble_eq_true rfl) hRl⟩ (⟨by omega, by omega⟩) d_M_writeFrom_28 ?_
      refine lv_istore (lv' := [(5, .int (nI (max P (r * 1024)))), (4, .int (nI r)), (0, .ref am), (1, .ref ia), (2, .int (nI P)), (3, .int (nI nb))]) hx hb d_M_writeFrom_31 hl (by decide) rfl (fun ls hl => ?_)
      refine lv_iload_n hx hb d_M_writeFrom_33 rfl (lv_at hl 4 rfl) ?_
      refine lv_iload_n hx hb d_M_writeFrom_34 rfl (lv_at hl 5 rfl) ?_
      refine lv_iadd hx hb d_M_writeFrom_35 ?_
      refine tp_i (v := nI (P + nb)) (nI_add P nb) ?_
      refine lv_iload hx hb d_M_writeFrom_36 (lv_at hl 1 rfl) ?_
      refine lv_iconst (v := 1) hx hb d_M_writeFrom_38 (by decide) ?_
      refine lv_iadd hx hb d_M_writeFrom_39 ?_
      refine tp_i (v := nI (r + 1)) (nI_1 r) ?_
      refine lv_sipush (v := 1024) hx hb d_M_writeFrom_40 (by decide) ?_
      refine lv_imul hx hb d_M_writeFrom_43 ?_
      refine tp_i (v := nI ((r + 1) * 1024)) (pk_mul (r + 1) 1024) ?_
      refine kmin (a := P + nb) (b := (r + 1) * 1024) hC hl.1 k_ml_M_18 (by omega) (by omega) ⟨Nat.le_trans (Nat.le_of_ble_eq_true rfl) hRf, Nat.le_trans (Nat.le_of_ble_eq_true rfl) hRl⟩ (⟨by omega, by omega⟩) d_M_writeFrom_44 ?_
      refine lv_istore (lv' := [(6, .int (nI (min (P + nb) ((r + 1) * 1024)))), (5, .int (nI (max P (r * 1024)))), (4, .int (nI r)), (0, .ref am), (1, .ref ia), (2, .int (nI P)), (3, .int (nI nb))]) hx hb d_M_writeFrom_47 hl (by decide) rfl (fun ls hl => ?_)
      refine lv_aload_n hx hb d_M_writeFrom_49 rfl (lv_at hl 3 rfl) ?_
      refine lv_iload hx hb d_M_writeFrom_50 (lv_at hl 2 rfl) ?_
      cases hg9 : g' r with
      | none =>
        refine callVq (As := [.int (nI r)]) (n9 := 1) hC hw (c_M_rowToWrite_none l D kc _ _ _ tg' k am ra mo pg N g' _ hm r hrN hg9) k_co_M_rowToWrite k_ml_M_62 k_im_M_rowToWrite k_se_M_rowToWrite k_in_M rfl rfl (by decide +kernel) rfl ⟨Nat.le_trans (Nat.le_of_ble_eq_true rfl) hRf, Nat.le_trans (Nat.le_of_ble_eq_true rfl) hRl⟩ ham hem rfl hl.1 rfl (Nat.le_of_ble_eq_true rfl) d_M_writeFrom_52 ⟨(by omega), (by omega)⟩ (fun o u H locs hp hw => ?_)
        obtain ⟨tg1, g1, w1, rfl, hm1, hg1, hgo, he1⟩ := hp
        obtain ⟨L1, f1⟩ := u
        dsimp only at hw hm1 he1
        have he1 := he.tr he1
        obtain ⟨-, -, -, -, hrow1⟩ := id hm1
        have hiL9 : ia ∈ L1 := he1.1 ia hiL
        have hei9 : f1 ia = .inl (kc 0, 4096, .inl hs) := by rw [show f1 ia = f ia from he1.2.2.1 ia hiL hia]; exact hei
        obtain ⟨w9, b9, hh, hg, hw9, htw, hfw, hb9, htb, hfb, hv⟩ : ∃ (w b : Nat) (h : Nat → Int32), g1 r = some w ∧ w ∈ L1 ∧ tg1 w = (k, 2 + 2 * r) ∧ f1 w = .inr (1, [.ref b]) ∧ b ∈ L1 ∧ tg1 b = (k, 3 + 2 * r) ∧ f1 b = .inl (kc 0, 1024, .inl h) ∧ ∀ j, j < 1024 → h j = sb_b (cpN bs P (min (P + nb) (max P (r * 1024)) - P) src (1024 * r + j)) := by
          rcases hrow1 r hrN with ⟨hn, -⟩ | hh
          · rw [hg1] at hn; cases hn
          · exact hh
        refine tp_v (v := .ref w9) (by rw [← hg1, hg]; rfl) ?_
        refine lv_astore (lv' := [(7, .ref w9), (6, .int (nI (min (P + nb) ((r + 1) * 1024)))), (5, .int (nI (max P (r * 1024)))), (4, .int (nI r)), (0, .ref am), (1, .ref ia), (2, .int (nI P)), (3, .int (nI nb))]) hx hb d_M_writeFrom_55 hl (by decide) rfl (fun ls hl => ?_)
        refine lv_aload hx hb d_M_writeFrom_57 (lv_at hl 0 rfl) ?_
        refine lv_ifnull hx hb d_M_writeFrom_59 ?_
        refine lv_aload_n hx hb d_M_writeFrom_62 rfl (lv_at hl 5 rfl) ?_
        refine lv_iload hx hb d_M_writeFrom_63 (lv_at hl 2 rfl) ?_
        refine lv_iload_n hx hb d_M_writeFrom_65 rfl (lv_at hl 6 rfl) ?_
        refine lv_isub hx hb d_M_writeFrom_66 ?_
        refine tp_i (v := nI (max P (r * 1024) - P)) (pk_sub (Nat.le_max_left _ _)) ?_
        refine lv_aload hx hb d_M_writeFrom_67 (lv_at hl 0 rfl) ?_
        refine get_W hC hw hw9 hfw 0 (by decide) k_fl_M_52 rfl d_M_writeFrom_69 ?_
        refine lv_iload hx hb d_M_writeFrom_72 (lv_at hl 2 rfl) ?_
        refine lv_iload hx hb d_M_writeFrom_74 (lv_at hl 3 rfl) ?_
        refine lv_sipush (v := 1024) hx hb d_M_writeFrom_76 (by decide) ?_
        refine lv_imul hx hb d_M_writeFrom_79 ?_
        refine tp_i (v := nI (r * 1024)) (pk_mul r 1024) ?_
        refine lv_isub hx hb d_M_writeFrom_80 ?_
        refine tp_i (v := nI (max P (r * 1024) - r * 1024)) (pk_sub (Nat.le_max_right _ _)) ?_
        refine lv_iload hx hb d_M_writeFrom_81 (lv_at hl 1 rfl) ?_
        refine lv_iload hx hb d_M_writeFrom_83 (lv_at hl 2 rfl) ?_
        refine lv_isub hx hb d_M_writeFrom_85 ?_
        refine tp_i (v := nI (min (P + nb) ((r + 1) * 1024) - max P (r * 1024))) (pk_sub (by omega)) ?_
        refine kcopy hC hw hl.1 k_ml_M_56 hiL9 hei9 hb9 hfb (by decide) (by decide) (by omega) (by omega) (fun i hi => by rw [hsr _ (by omega)]; exact sb_fitB _) ⟨Nat.le_trans (Nat.le_of_ble_eq_true rfl) hRf, Nat.le_trans (Nat.le_of_ble_eq_true rfl) hRl⟩ d_M_writeFrom_86 (fun H locs hw => ?_)
        have key := memG_put hm1 hrN hg hw9 htw hfw hb9 htb hfb (h' := va_cpy hs hh (max P (r * 1024) - P) (max P (r * 1024) - r * 1024) (min (P + nb) ((r + 1) * 1024) - max P (r * 1024))) (bs' := cpN bs P (min (P + nb) (max P ((r + 1) * 1024)) - P) src) (cpN_lt hb0 (fun j hj => hsl j (by omega))) (by
          intro j hj
          by_cases q : max P (r * 1024) - r * 1024 ≤ j ∧ j < min (P + nb) ((r + 1) * 1024) - r * 1024
          · rw [pk_cpy_in q.1 (by omega), hsr _ (by omega), cpN_in (by omega)]
            congr 2
            omega
          · rw [pk_cpy_out (by omega), hv j hj]
            by_cases q2 : P ≤ 1024 * r + j ∧ 1024 * r + j < P + (min (P + nb) (max P (r * 1024)) - P)
            · omega
            · rw [cpN_out q2, cpN_out (by omega)])
          (fun j hj => by
            by_cases q2 : P ≤ j ∧ j < P + (min (P + nb) (max P (r * 1024)) - P)
            · rw [cpN_in q2, cpN_in (by omega)]
            · rw [cpN_out q2, cpN_out (by omega)])
        refine lv_iinc (v := nI (r + 1)) (lv' := [(4, .int (nI (r + 1))), (7, .ref w9), (6, .int (nI (min (P + nb) ((r + 1) * 1024)))), (5, .int (nI (max P (r * 1024)))), (0, .ref am), (1, .ref ia), (2, .int (nI P)), (3, .int (nI nb))]) hx hb d_M_writeFrom_89 hl (k := 3) rfl (nI_1 r) (by decide) rfl (fun ls hl => ?_)
        refine lv_goto (tgt := 7) hx hb d_M_writeFrom_92 (by decide) ?_
        refine W.cs (cells' := 2 * (c9 + 1)) (slots' := 1025 * (c9 + 1)) (by omega) (by omega) ?_
        exact ih (r + 1) (c9 + 1) L1 _ tg1 g1 _ _ _ (by omega) (by omega) (by omega) (by omega) key.1 (he1.tr key.2) hw (lv_sub hl [0, 4, 5, 6, 7] rfl)
      | some w0 =>
        refine callVq (As := [.int (nI r)]) (n9 := 1) hC hw (c_M_rowToWrite_some l D kc _ _ _ am ra mo pg N g' ham hem hra her hN r hrN w0 hg9) k_co_M_rowToWrite k_ml_M_62 k_im_M_rowToWrite k_se_M_rowToWrite k_in_M rfl rfl (by decide +kernel) rfl ⟨Nat.le_trans (Nat.le_of_ble_eq_true rfl) hRf, Nat.le_trans (Nat.le_of_ble_eq_true rfl) hRl⟩ ham hem rfl hl.1 rfl (Nat.le_of_ble_eq_true rfl) d_M_writeFrom_52 ⟨(by omega), (by omega)⟩ (fun o u H locs hp hw => ?_)
        obtain ⟨rfl, rfl⟩ := hp
        obtain ⟨w9, b9, hh, hg, hw9, htw, hfw, hb9, htb, hfb, hv⟩ : ∃ (w b : Nat) (h : Nat → Int32), g' r = some w ∧ w ∈ L' ∧ tg' w = (k, 2 + 2 * r) ∧ f' w = .inr (1, [.ref b]) ∧ b ∈ L' ∧ tg' b = (k, 3 + 2 * r) ∧ f' b = .inl (kc 0, 1024, .inl h) ∧ ∀ j, j < 1024 → h j = sb_b (cpN bs P (min (P + nb) (max P (r * 1024)) - P) src (1024 * r + j)) := by
          rcases hrow r hrN with ⟨hn, -⟩ | hh
          · rw [hg9] at hn; cases hn
          · exact hh
        refine tp_v (v := .ref w9) (by rw [← hg9, hg]; rfl) ?_
        refine lv_astore (lv' := [(7, .ref w9), (6, .int (nI (min (P + nb) ((r + 1) * 1024)))), (5, .int (nI (max P (r * 1024)))), (4, .int (nI r)), (0, .ref am), (1, .ref ia), (2, .int (nI P)), (3, .int (nI nb))]) hx hb d_M_writeFrom_55 hl (by decide) rfl (fun ls hl => ?_)
        refine lv_aload hx hb d_M_writeFrom_57 (lv_at hl 0 rfl) ?_
        refine lv_ifnull hx hb d_M_writeFrom_59 ?_
        refine lv_aload_n hx hb d_M_writeFrom_62 rfl (lv_at hl 5 rfl) ?_
        refine lv_iload hx hb d_M_writeFrom_63 (lv_at hl 2 rfl) ?_
        refine lv_iload_n hx hb d_M_writeFrom_65 rfl (lv_at hl 6 rfl) ?_
        refine lv_isub hx hb d_M_writeFrom_66 ?_
        refine tp_i (v := nI (max P (r * 1024) - P)) (pk_sub (Nat.le_max_left _ _)) ?_
        refine lv_aload hx hb d_M_writeFrom_67 (lv_at hl 0 rfl) ?_
        refine get_W hC hw hw9 hfw 0 (by decide) k_fl_M_52 rfl d_M_writeFrom_69 ?_
        refine lv_iload hx hb d_M_writeFrom_72 (lv_at hl 2 rfl) ?_
        refine lv_iload hx hb d_M_writeFrom_74 (lv_at hl 3 rfl) ?_
        refine lv_sipush (v := 1024) hx hb d_M_writeFrom_76 (by decide) ?_
        refine lv_imul hx hb d_M_writeFrom_79 ?_
        refine tp_i (v := nI (r * 1024)) (pk_mul r 1024) ?_
        refine lv_isub hx hb d_M_writeFrom_80 ?_
        refine tp_i (v := nI (max P (r * 1024) - r * 1024)) (pk_sub (Nat.le_max_right _ _)) ?_
        refine lv_iload hx hb d_M_writeFrom_81 (lv_at hl 1 rfl) ?_
        refine lv_iload hx hb d_M_writeFrom_83 (lv_at hl 2 rfl) ?_
        refine lv_isub hx hb d_M_writeFrom_85 ?_
        refine tp_i (v := nI (min (P + nb) ((r + 1) * 1024) - max P (r * 1024))) (pk_sub (by omega)) ?_
        refine kcopy hC hw hl.1 k_ml_M_56 hiL9 hei9 hb9 hfb (by decide) (by decide) (by omega) (by omega) (fun i hi => by rw [hsr _ (by omega)]; exact sb_fitB _) ⟨Nat.le_trans (Nat.le_of_ble_eq_true rfl) hRf, Nat.le_trans (Nat.le_of_ble_eq_true rfl) hRl⟩ d_M_writeFrom_86 (fun H locs hw => ?_)
        have key := memG_put hm hrN hg hw9 htw hfw hb9 htb hfb (h' := va_cpy hs hh (max P (r * 1024) - P) (max P (r * 1024) - r * 1024) (min (P + nb) ((r + 1) * 1024) - max P (r * 1024))) (bs' := cpN bs P (min (P + nb) (max P ((r + 1) * 1024)) - P) src) (cpN_lt hb0 (fun j hj => hsl j (by omega))) (by
          intro j hj
          by_cases q : max P (r * 1024) - r * 1024 ≤ j ∧ j < min (P + nb) ((r + 1) * 1024) - r * 1024
          · rw [pk_cpy_in q.1 (by omega), hsr _ (by omega), cpN_in (by omega)]
            congr 2
            omega
          · rw [pk_cpy_out (by omega), hv j hj]
            by_cases q2 : P ≤ 1024 * r + j ∧ 1024 * r + j < P + (min (P + nb) (max P (r * 1024)) - P)
            · omega
            · rw [cpN_out q2, cpN_out (by omega)])
          (fun j hj => by
            by_cases q2 : P ≤ j ∧ j < P + (min (P + nb) (max P (r * 1024)) - P)
            · rw [cpN_in q2, cpN_in (by omega)]
            · rw [cpN_out q2, cpN_out (by omega)])
        refine lv_iinc (v := nI (r + 1)) (lv' := [(4, .int (nI (r + 1))), (7, .ref w9), (6, .int (nI (min (P + nb) ((r + 1) * 1024)))), (5, .int (nI (max P (r * 1024)))), (0, .ref am), (1, .ref ia), (2, .int (nI P)), (3, .int (nI nb))]) hx hb d_M_writeFrom_89 hl (k := 3) rfl (nI_1 r) (by decide) rfl (fun ls hl => ?_)
        refine lv_goto (tgt := 7) hx hb d_M_writeFrom_92 (by decide) ?_
        exact ih (r + 1) c9 L' _ tg' g' _ _ _ (by omega) (by omega) (by omega) (by omega) key.1 (he.tr key.2) hw (lv_sub hl [0, 4, 5, 6, 7] rfl)
set_option maxHeartbeats 4000000 in
set_option maxRecDepth 100000 in
theorem c_M_writeFrom (l : Launch) (D : va_G) (kc : Nat → ClassId) (L : List Nat) (f : Nat → va_E) (sz : Nat) (tg : Nat → Nat × Nat) (k am ra : Nat) (mo : Int32) (pg N : Nat) (g : Nat → Option Nat) (bs : Nat → Nat) (hm : memG kc L f tg k am ra mo pg N g bs) (ia P nb : Nat) (hs : Nat → Int32) (src : Nat → Nat) (hiL : ia ∈ L) (hei : f ia = .inl (kc 0, 4096, .inl hs)) (hia : (tg ia).1 ≠ k) (hsr : ∀ j, j < nb → hs j = sb_b (src j)) (hsl : ∀ j, j < nb → src j < 256) (hP : P + nb ≤ 1024 * N) (hnb : 0 < nb ∧ nb ≤ 4096) : Met l y_M_writeFrom w_M_writeFrom ({ frames := 3, cells := 10, slots := 5125, locals := 53 }) (PP D kc L f sz [.ref am, .ref ia, .int (nI P), .int (nI nb)]) (Qv D L f sz (fun u => ∃ tg' g', memG kc u.1 u.2 tg' k am ra mo pg N g' (cpN bs P nb src) ∧ Ext (fun i => i = k) L f tg u tg')) 10 5125 (pA L f sz) := by
  refine kx_met (by decide) (Nat.le_of_ble_eq_true rfl) ?_
  intro p e s m below meth c hC hnm hw hsz ls hl
  subst hsz
  have hl : lv_has ls 8 [(0, .ref am), (1, .ref ia), (2, .int (nI P)), (3, .int (nI nb))] := hl
  obtain ⟨⟨⟨hx, hb, hml, hown, hts⟩, hret9, hlocks⟩, hK, hE, hA⟩ := id hC
  obtain ⟨⟨ham, hta, hem⟩, ⟨hra, htr, her⟩, hN, hbs, hrow⟩ := id hm
  refine lv_iload_n hx hb d_M_writeFrom_0 rfl (lv_at hl 2 rfl) ?_
  refine lv_sipush (v := 1024) hx hb d_M_writeFrom_1 (by decide) ?_
  refine lv_idiv hx hb d_M_writeFrom_4 (by decide) ?_
  refine tp_i (v := nI (P / 1024)) (pk_div (d := 1024) (by omega) (by decide) (by decide)) ?_
  refine lv_istore (lv' := [(4, .int (nI (P / 1024))), (0, .ref am), (1, .ref ia), (2, .int (nI P)), (3, .int (nI nb))]) hx hb d_M_writeFrom_5 hl (by decide) rfl (fun ls hl => ?_)
  have hm0 : memG kc L f tg k am ra mo pg N g (cpN bs P (min (P + nb) (max P (P / 1024 * 1024)) - P) src) := by
    rw [show cpN bs P (min (P + nb) (max P (P / 1024 * 1024)) - P) src = bs from by funext j; exact cpN_out (by omega)]
    exact hm
  refine lp_writeFrom ⟨Nat.le_refl _, Nat.le_refl _⟩ ia P nb hiL hei hia hsr hsl hbs hP hnb hN hC (Nat.le_of_ble_eq_true rfl) (Nat.le_of_ble_eq_true rfl) (fun c9 L2 f2 tg2 g2 H locs ls hc9 hm2 he2 hw => ?_) ((P + nb - 1) / 1024 + 2) (P / 1024) 0 L f tg g _ _ _ (Nat.le_refl _) (by omega) (by omega) (Nat.zero_le _) hm0 Ext.rf hw (lv_sub hl [0, 1, 2, 3, 4] rfl)
  refine W.widen (k := 10) (n := 5125) (by omega) (by omega) ?_
  exact pg_vret hC.1 hw (⟨tg2, g2, hm2, he2⟩) d_M_writeFrom_95
