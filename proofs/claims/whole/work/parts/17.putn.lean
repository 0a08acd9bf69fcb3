/-! Memory: putNumber -/
/-- the bytes from P on are those of V, the lowest first -/
def putN (bs : Nat → Nat) (P V : Nat) : Nat → Nat → Nat
  | 0 => bs
  | i + 1 => va_up (putN bs P V i) (P + i) (V / 2 ^ (8 * i) % 256)
set_option maxHeartbeats 4000000 in
set_option maxRecDepth 100000 in
theorem lp_putNumber {p : Program} {l : Launch} {e : Env} {R : Room} {s : State} {m : MethodId} {args : Array Value} {below : List Frame} {meth : Method} {c : Code} {Q : State → Prop} {A : Nat → Prop} {D : va_G} {kc : Nat → ClassId} {c0 : Cond} {ret : Option FieldType} {L : List Nat} {f : Nat → va_E} {tg : Nat → Nat × Nat} {k am ra : Nat} {mo : Int32} {pg N : Nat} {bs : Nat → Nat} (hcs : 4 ≤ R.cells ∧ 2050 ≤ R.slots) (P nb : Nat) (x : Int64) (hP : P + nb ≤ 1024 * N) (hnb : nb ≤ 8) (hN9 : N ≤ 1024) (hC : Kx p m c b_M_putNumber 6 s args c0 R_M meth ret D kc A) (hRf : 4 ≤ R.frames) (hRl : 76 ≤ R.locals)
    (kont : ∀ (c9 : Nat) (L' : List Nat) (f' : Nat → va_E) (tg' : Nat → Nat × Nat) (g' : Nat → Option Nat) (H : Heap) (locs : List Loc) (ls : Array Slot), c9 ≤ 2 → memG kc L' f' tg' k am ra mo pg N g' (putN bs P (uL x) nb) → Ext (fun i => i = k) L f tg (L', f') tg' → pw D Cls A s.heap H locs L' f' → W p l e R s m args below meth c H locs (2 * c9) (1025 * c9) Q (F0 m 32 ls [])) :
    ∀ (n : Nat) (i : Nat) (c9 : Nat) (L' : List Nat) (f' : Nat → va_E) (tg' : Nat → Nat × Nat) (g' : Nat → Option Nat) (H : Heap) (locs : List Loc) (ls : Array Slot), i ≤ nb → nb + 1 ≤ i + n → (c9 ≤ (P + i) / 1024 - P / 1024 ∨ (c9 ≤ (P + i) / 1024 - P / 1024 + 1 ∧ g' ((P + i) / 1024) ≠ none)) → memG kc L' f' tg' k am ra mo pg N g' (putN bs P (uL x) i) → Ext (fun i => i = k) L f tg (L', f') tg' → pw D Cls A s.heap H locs L' f' → lv_has ls 6 [(5, .int (nI i)), (0, .ref am), (1, .int (nI P)), (2, .int (nI nb)), (3, .long x)] → W p l e R s m args below meth c H locs (2 * c9) (1025 * c9) Q (F0 m 3 ls []) := by
  obtain ⟨⟨⟨hx, hb, hml, hown, hts⟩, hret9, hlocks⟩, hK, hE, hA⟩ := id hC
  intro n
  induction n with
  | zero => intro i c9 L' f' tg' g' H locs ls hi hin hc9 hm he hw hl; exact absurd hin (by omega)
  | succ n ih =>
    intro i c9 L' f' tg' g' H locs ls hi hin hc9 hm he hw hl
    obtain ⟨⟨ham, hta, hem⟩, ⟨hra, htr, her⟩, hN, hbs, hrow⟩ := id hm
    refine lv_iload hx hb d_M_putNumber_3 (lv_at hl 0 rfl) ?_
    refine lv_iload_n hx hb d_M_putNumber_5 rfl (lv_at hl 3 rfl) ?_
    refine lv_icmp_ge (tgt := 32) hx hb d_M_putNumber_6 (by decide) (fun c1 => ?_) (fun c1 => ?_)
    · have e : i = nb := by
        rcases Nat.lt_or_ge i nb with q | q
        · exact absurd c1 (nI_ge q (by omega))
        · omega
      subst e
      exact kont c9 L' f' tg' g' H locs ls (by omega) hm he hw
    · have hlt : i < nb := by
        rcases Nat.lt_or_ge i nb with q | q
        · exact q
        · exact absurd (nI_le q (by omega)) c1
      refine lv_aload_n hx hb d_M_putNumber_9 rfl (lv_at hl 1 rfl) ?_
      refine lv_iload_n hx hb d_M_putNumber_10 rfl (lv_at hl 2 rfl) ?_
      refine lv_iload hx hb d_M_putNumber_11 (lv_at hl 0 rfl) ?_
      refine lv_iadd hx hb d_M_putNumber_13 ?_
      refine tp_i (v := nI (P + i)) (nI_add P i) ?_
      refine lv_lload_n hx hb d_M_putNumber_14 rfl (lv_at hl 4 rfl) ?_
      refine lv_bipush (v := 8) hx hb d_M_putNumber_15 (by decide) ?_
      refine lv_iload hx hb d_M_putNumber_17 (lv_at hl 0 rfl) ?_
      refine lv_imul hx hb d_M_putNumber_19 ?_
      refine lv_lushr hx hb d_M_putNumber_20 rfl ?_
      refine lv_l2i hx hb d_M_putNumber_21 rfl ?_
      refine lv_i2b hx hb d_M_putNumber_22 rfl ?_
      refine tp_i (v := sb_b (uL x / 2 ^ (8 * i) % 256)) (byte_u x (by omega)) ?_
      cases hg9 : g' ((P + i) / 1024) with
      | none =>
        have hc2 : c9 ≤ (P + i) / 1024 - P / 1024 := by
          rcases hc9 with q | q
          · exact q
          · exact absurd hg9 q.2
        refine callVv (As := [.int (nI (P + i)), .int (sb_b (uL x / 2 ^ (8 * i) % 256))]) (n9 := 2) hC hw (c_M_putByte_none l D kc _ _ _ tg' k am ra mo pg N g' (putN bs P (uL x) i) hm (P + i) (by omega) (uL x / 2 ^ (8 * i) % 256) (by omega) hg9) k_co_M_putByte k_ml_M_40 k_im_M_putByte k_se_M_putByte k_in_M rfl rfl (by decide +kernel) rfl ⟨Nat.le_trans (Nat.le_of_ble_eq_true rfl) hRf, Nat.le_trans (Nat.le_of_ble_eq_true rfl) hRl⟩ ham hem rfl hl.1 rfl (Nat.le_of_ble_eq_true rfl) d_M_putNumber_23 ⟨(by omega), (by omega)⟩ (fun u H locs hp hw => ?_)
        obtain ⟨tg2, g2, hm2, hg2, hgo, he2⟩ := hp
        obtain ⟨L2, f2⟩ := u
        dsimp only at hw hm2 he2
        refine lv_iinc (v := nI (i + 1)) (lv' := [(5, .int (nI (i + 1))), (0, .ref am), (1, .int (nI P)), (2, .int (nI nb)), (3, .long x)]) hx hb d_M_putNumber_26 hl (k := 0) rfl (nI_1 i) (by decide) rfl (fun ls hl => ?_)
        refine lv_goto (tgt := 3) hx hb d_M_putNumber_29 (by decide) ?_
        refine W.cs (cells' := 2 * (c9 + 1)) (slots' := 1025 * (c9 + 1)) (by omega) (by omega) ?_
        refine ih (i + 1) (c9 + 1) L2 f2 tg2 g2 _ _ _ (by omega) (by omega) ?_ hm2 (he.tr he2) hw (lv_sub hl [0, 1, 2, 3, 4] rfl)
        by_cases e : (P + (i + 1)) / 1024 = (P + i) / 1024
        · right; rw [e]; exact ⟨by omega, hg2⟩
        · left; omega
      | some w0 =>
        refine callVv (As := [.int (nI (P + i)), .int (sb_b (uL x / 2 ^ (8 * i) % 256))]) (n9 := 2) hC hw (c_M_putByte_some l D kc _ _ _ tg' k am ra mo pg N g' (putN bs P (uL x) i) hm (P + i) (by omega) (uL x / 2 ^ (8 * i) % 256) (by omega) w0 hg9) k_co_M_putByte k_ml_M_40 k_im_M_putByte k_se_M_putByte k_in_M rfl rfl (by decide +kernel) rfl ⟨Nat.le_trans (Nat.le_of_ble_eq_true rfl) hRf, Nat.le_trans (Nat.le_of_ble_eq_true rfl) hRl⟩ ham hem rfl hl.1 rfl (Nat.le_of_ble_eq_true rfl) d_M_putNumber_23 ⟨(by omega), (by omega)⟩ (fun u H locs hp hw => ?_)
        obtain ⟨tg2, g2, hm2, hg2, hgo, he2⟩ := hp
        obtain ⟨L2, f2⟩ := u
        dsimp only at hw hm2 he2
        refine lv_iinc (v := nI (i + 1)) (lv' := [(5, .int (nI (i + 1))), (0, .ref am), (1, .int (nI P)), (2, .int (nI nb)), (3, .long x)]) hx hb d_M_putNumber_26 hl (k := 0) rfl (nI_1 i) (by decide) rfl (fun ls hl => ?_)
        refine lv_goto (tgt := 3) hx hb d_M_putNumber_29 (by decide) ?_
        refine ih (i + 1) c9 L2 f2 tg2 g2 _ _ _ (by omega) (by omega) ?_ hm2 (he.tr he2) hw (lv_sub hl [0, 1, 2, 3, 4] rfl)
        have hc2 : c9 ≤ (P + i) / 1024 - P / 1024 + 1 := by
          rcases hc9 with q | q
          · omega
          · exact q.1
        by_cases e : (P + (i + 1)) / 1024 = (P + i) / 1024
        · right; rw [e]; exact ⟨hc2, hg2⟩
        · left; omega
set_option maxHeartbeats 4000000 in
set_option maxRecDepth 100000 in
theorem c_M_putNumber (l : Launch) (D : va_G) (kc : Nat → ClassId) (L : List Nat) (f : Nat → va_E) (sz : Nat) (tg : Nat → Nat × Nat) (k am ra : Nat) (mo : Int32) (pg N : Nat) (g : Nat → Option Nat) (bs : Nat → Nat) (hm : memG kc L f tg k am ra mo pg N g bs) (P nb : Nat) (x : Int64) (hP : P + nb ≤ 1024 * N) (hnb : nb ≤ 8) : Met l y_M_putNumber w_M_putNumber ({ frames := 4, cells := 4, slots := 2050, locals := 76 }) (PP D kc L f sz [.ref am, .int (nI P), .int (nI nb), .long x]) (Qv D L f sz (fun u => ∃ tg' g', memG kc u.1 u.2 tg' k am ra mo pg N g' (putN bs P (uL x) nb) ∧ Ext (fun i => i = k) L f tg u tg')) 4 2050 (pA L f sz) := by
  refine kx_met (by decide) (Nat.le_of_ble_eq_true rfl) ?_
  intro p e s m below meth c hC hnm hw hsz ls hl
  subst hsz
  have hl : lv_has ls 6 [(0, .ref am), (1, .int (nI P)), (2, .int (nI nb)), (3, .long x)] := hl
  obtain ⟨⟨⟨hx, hb, hml, hown, hts⟩, hret9, hlocks⟩, hK, hE, hA⟩ := id hC
  refine lv_iconst (v := 0) hx hb d_M_putNumber_0 (by decide) ?_
  refine lv_istore (lv' := [(5, .int 0), (0, .ref am), (1, .int (nI P)), (2, .int (nI nb)), (3, .long x)]) hx hb d_M_putNumber_1 hl (by decide) rfl (fun ls hl => ?_)
  refine lp_putNumber ⟨Nat.le_refl _, Nat.le_refl _⟩ P nb x hP hnb hm.2.2.1 hC (Nat.le_of_ble_eq_true rfl) (Nat.le_of_ble_eq_true rfl) (fun c9 L2 f2 tg2 g2 H locs ls hc9 hm2 he2 hw => ?_) (nb + 1) 0 0 L f tg g _ _ _ (Nat.zero_le _) (by omega) (Or.inl (Nat.zero_le _)) hm Ext.rf hw (lv_sub hl [0, 1, 2, 3, 4] rfl)
  refine W.widen (k := 4) (n := 2050) (by omega) (by omega) ?_
  exact pg_vret hC.1 hw (⟨tg2, g2, hm2, he2⟩) d_M_putNumber_32
