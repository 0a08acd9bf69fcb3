/-! THE LAW'S LOOP -/
theorem le7 {i N : Nat} (hi : i ≤ 3584) (hN : N ≤ 3584) : nI i > nI N - 7 ↔ N < i + 7 := by
  show nI N - 7 < nI i ↔ N < i + 7
  rw [Int32.lt_iff_toInt_lt, Int32.toInt_sub, nI_toInt (n := i) (by omega), nI_toInt (n := N) (by omega), show (7 : Int32).toInt = 7 from rfl, Int.bmod_def]
  simp only [Nat.reducePow, Int.reducePow]
  split <;> omega
theorem and7 (x : Int32) : ∃ t, t < 8 ∧ x &&& 7 = nI t := by
  refine ⟨(x &&& 7).toBitVec.toNat, ?_, ?_⟩
  · rw [Int32.toBitVec_and, BitVec.toNat_and]
    exact Nat.lt_of_le_of_lt Nat.and_le_right (by decide)
  · apply Int32.toBitVec_inj.mp
    show _ = (Int32.ofNat _).toBitVec
    rw [Int32.toBitVec_ofNat']
    exact (BitVec.ofNat_toNat _ _).symm.trans (by rfl) |>.symm ▸ (by simp)
set_option maxHeartbeats 4000000 in
set_option maxRecDepth 100000 in
theorem law_loop {p : Program} {l : Launch} {e : Env} {R : Room} {s : State} {m : MethodId} {args : Array Value} {below : List Frame} {meth : Method} {c : Code} {Q : State → Prop} {A : Nat → Prop} {D : va_G} {kc : Nat → ClassId} {c0 : Cond} {ret : Option FieldType} {b N : Nat} {xs : Nat → Int32} (hst : l.stackTraces = false) (hC : Kx p m c code 8 s args c0 R_L meth ret D kc A) (hRf : 12 ≤ R.frames) (hRl : 464 ≤ R.locals) (hRc : 601024 ≤ R.cells) (hRs : 7293034 ≤ R.slots) (hX : va_X b N xs s s.heap) (hbl : b < s.heap.size) (hbA : ¬ A b) (hN : N ≤ 3584) {x d o : Nat}
    (kont : ∀ (H : Heap) (locs : List Loc) (cells slots : Nat) (ls : Array Slot), (∀ q ∈ locs, A q.base) → cells ≤ 601024 → slots ≤ 7293034 → W p l e R s m args below meth c H locs cells slots Q (F0 m 746 ls [])) :
    ∀ (n j i : Nat) (L : List Nat) (f : Nat → va_E) (tg : Nat → Nat × Nat) (S : ST) (th : Int32) (v0 : Int64) (H : Heap) (locs : List Loc) (cells slots : Nat) (ls : Array Slot), i = 7 * j → i ≤ N → N + 1 ≤ i + n → cells ≤ 10 + 20 * j → slots ≤ 9309 + 10275 * j → rP kc (L, f) tg x S → mP kc (L, f) tg d th S → OutA kc L f tg o v0 → okS S → pw D Cls A s.heap H locs L f → lv_has ls 8 [(0, .ref b), (1, .ref x), (2, .ref d), (3, .ref o), (4, .int (nI i))] → W p l e R s m args below meth c H locs cells slots Q (F0 m 23 ls []) := by
  obtain ⟨⟨⟨hx, hb, hml, hown, hts⟩, hret9, hlocks⟩, hK, hE, hA⟩ := id hC
  intro n
  induction n with
  | zero => intro j i L f tg S th v0 H locs cells slots ls h1 h2 h3; exact absurd h3 (by omega)
  | succ n ih =>
    intro j i L f tg S th v0 H locs cells slots ls hj hi hn hcs hss hr hm ho hs hw hl
    refine lv_iload hx hb d_L_law_23 (lv_at hl 4 rfl) ?_
    refine lv_aload_n hx hb d_L_law_25 rfl (lv_at hl 0 rfl) ?_
    refine va_slen hx hb hX hbl hbA hw.2.2 d_L_law_26 ?_
    refine lv_bipush (v := 7) hx hb d_L_law_27 (by decide) ?_
    refine lv_isub hx hb d_L_law_29 ?_
    refine lv_icmp_gt (tgt := 746) hx hb d_L_law_30 (by decide) (fun c1 => ?_) (fun c1 => ?_)
    · exact kont _ _ _ _ _ hw.2.2.2.2 (by omega) (by omega)
    · have hi7 : i + 7 ≤ N := by
        rcases Nat.lt_or_ge N (i + 7) with q | q
        · exact absurd ((le7 (by omega) hN).mpr q) c1
        · exact q
      refine lv_aload_n hx hb d_L_law_33 rfl (lv_at hl 0 rfl) ?_
      refine lv_iload hx hb d_L_law_34 (lv_at hl 4 rfl) ?_
      refine sld0 hC hX hbl hbA hw (by omega) hN d_L_law_36 ?_
      refine lv_bipush (v := 7) hx hb d_L_law_37 (by decide) ?_
      refine lv_iand hx hb d_L_law_39 ?_
      have tail : ∀ (L : List Nat) (f : Nat → va_E) (tg : Nat → Nat × Nat) (S : ST) (th : Int32) (v0 : Int64) (H : Heap) (locs : List Loc) (cells1 slots1 : Nat) (ls : Array Slot), cells1 ≤ cells + 20 → slots1 ≤ slots + 10275 → rP kc (L, f) tg x S → mP kc (L, f) tg d th S → OutA kc L f tg o v0 → okS S → pw D Cls A s.heap H locs L f → lv_has ls 8 [(0, .ref b), (1, .ref x), (2, .ref d), (3, .ref o), (4, .int (nI i))] → W p l e R s m args below meth c H locs cells1 slots1 Q (F0 m 740 ls []) := by
        intro L f tg S th v0 H locs cells1 slots1 ls h1 h2 hr hm ho hs hw hl
        refine lv_iinc (v := nI (i + 7)) (lv' := [(4, .int (nI (i + 7))), (0, .ref b), (1, .ref x), (2, .ref d), (3, .ref o)]) hx hb d_L_law_740 hl (k := 4) rfl (nI_add i 7) (by decide) rfl (fun ls hl => ?_)
        refine lv_goto (tgt := 23) hx hb d_L_law_743 (by decide) ?_
        exact ih (j + 1) (i + 7) L f tg S th v0 H locs cells1 slots1 ls (by omega) (by omega) (by omega) (by omega) (by omega) hr hm ho hs hw (lv_sub hl [1, 2, 3, 4, 0] rfl)
      obtain ⟨t, ht, et⟩ := and7 (xs i)
      rw [et]
      clear et
      match t, ht with
      | 0, _ =>
        refine lv_tableIn (tgt := 88) (off := 48) hx hb d_L_law_40 (by decide) (by decide) (by decide) (by decide) ?_
        exact lc_make hst hC hRf hRl hX hbl hbA hN hi7 (by omega) (by omega) hr hm ho hs hw hl tail
      | 1, _ =>
        refine lv_tableIn (tgt := 156) (off := 116) hx hb d_L_law_40 (by decide) (by decide) (by decide) (by decide) ?_
        exact lc_pages hst hC hRf hRl hX hbl hbA hN hi7 (by omega) (by omega) hr hm ho hs hw hl tail
      | 2, _ =>
        refine lv_tableIn (tgt := 212) (off := 172) hx hb d_L_law_40 (by decide) (by decide) (by decide) (by decide) ?_
        exact lc_grow hst hC hRf hRl hX hbl hbA hN hi7 (by omega) (by omega) hr hm ho hs hw hl tail
      | 3, _ =>
        refine lv_tableIn (tgt := 280) (off := 240) hx hb d_L_law_40 (by decide) (by decide) (by decide) (by decide) ?_
        exact lc_fits hst hC hRf hRl hX hbl hbA hN hi7 (by omega) (by omega) hr hm ho hs hw hl tail
      | 4, _ =>
        refine lv_tableIn (tgt := 367) (off := 327) hx hb d_L_law_40 (by decide) (by decide) (by decide) (by decide) ?_
        exact lc_load hst hC hRf hRl hX hbl hbA hN hi7 (by omega) (by omega) hr hm ho hs hw hl tail
      | 5, _ =>
        refine lv_tableIn (tgt := 458) (off := 418) hx hb d_L_law_40 (by decide) (by decide) (by decide) (by decide) ?_
        exact lc_store hst hC hRf hRl hX hbl hbA hN hi7 (by omega) (by omega) hr hm ho hs hw hl tail
      | 6, _ =>
        refine lv_tableIn (tgt := 576) (off := 536) hx hb d_L_law_40 (by decide) (by decide) (by decide) (by decide) ?_
        exact lc_copy hst hC hRf hRl hX hbl hbA hN hi7 (by omega) (by omega) hr hm ho hs hw hl tail
      | 7, _ =>
        refine lv_tableIn (tgt := 660) (off := 620) hx hb d_L_law_40 (by decide) (by decide) (by decide) (by decide) ?_
        exact lc_sum hst hC hRf hRl hX hbl hbA hN hi7 (by omega) (by omega) hr hm ho hs hw hl tail
