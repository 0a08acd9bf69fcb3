/-! The reference: copy, load -/
theorem mod_cp {kc : Nat → ClassId} {L : List Nat} {f : Nat → va_E} {tg : Nat → Nat × Nat} {d mst ow ix bb cpy : Nat} {gb : Nat → Option Nat} {hm ho hi hc : Nat → Int32} {th : Int32} {n : Nat} {mo : Nat → Int32} {om : Nat → Nat} {al : Nat} {bs : Nat → Nat → Nat} (h : modG kc L f tg d mst ow ix bb cpy gb hm ho hi hc th n mo om al bs) (h' : Nat → Int32) :
    modG kc L (va_up f cpy (.inl (kc 3, 4096, .inl h'))) tg d mst ow ix bb cpy gb hm ho hi h' th n mo om al bs ∧ Ext SD L f tg (L, va_up f cpy (.inl (kc 3, 4096, .inl h'))) tg := by
  obtain ⟨⟨a1, a2, a3⟩, ⟨b1, b2, b3⟩, ⟨c1, c2, c3⟩, ⟨d1, d2, d3⟩, ⟨e1, e2, e3⟩, ⟨g1, g2, g3⟩, k1, k2, k3⟩ := id h
  have ne : ∀ a, tg a ≠ (200, 5) → a ≠ cpy := fun a ha e => ha (e ▸ g2)
  exact mod_upd h (by rw [va_up_ne _ _ (ne _ (by rw [a2]; simp))]; exact a3) (by rw [va_up_ne _ _ (ne _ (by rw [b2]; simp))]; exact b3) (by rw [va_up_ne _ _ (ne _ (by rw [c2]; simp))]; exact c3) (by rw [va_up_ne _ _ (ne _ (by rw [d2]; simp))]; exact d3) (va_up_self _ _ _) (fun a _ _ _ _ _ h5 => va_up_ne _ _ h5) k1 k2 (fun _ _ _ _ => rfl)
set_option maxHeartbeats 4000000 in
set_option maxRecDepth 100000 in
theorem lp_dcp1 {p : Program} {l : Launch} {e : Env} {R : Room} {s : State} {m : MethodId} {args : Array Value} {below : List Frame} {meth : Method} {c : Code} {Q : State → Prop} {A : Nat → Prop} {D : va_G} {kc : Nat → ClassId} {c0 : Cond} {ret : Option FieldType} {L : List Nat} {f : Nat → va_E} {d mst ow ix bb cpy : Nat} {gb : Nat → Option Nat} {hm9 ho9 hi9 : Nat → Int32} {tg : Nat → Nat × Nat} {nm : Nat} {mo : Nat → Int32} {om : Nat → Nat} {al : Nat} {bs : Nat → Nat → Nat} (hs : stOK nm mo om al bs) {cells slots : Nat} (hcs : cells ≤ R.cells ∧ slots ≤ R.slots) (k : Nat) (hk : k < nm) (P nb : Nat) (m2 t2 : Int32) (hP : P + nb ≤ 65536 * cnt om al k) (hnb : nb ≤ 4096) (hC : Kx p m c b_D_copy 8 s args c0 R_D meth ret D kc A) (hRf : 2 ≤ R.frames) (hRl : 50 ≤ R.locals)
    (kont : ∀ (f' : Nat → va_E) (h' : Nat → Int32) (H : Heap) (locs : List Loc) (ls : Array Slot), (∀ j, j < nb → h' j = nI (bs k (P + j))) → modG kc L f' tg d mst ow ix bb cpy gb hm9 ho9 hi9 h' 0 nm mo om al bs → Ext SD L f tg (L, f') tg → pw D Cls A s.heap H locs L f' → lv_has ls 8 [(0, .ref d), (3, .int m2), (4, .int t2), (5, .int (nI nb))] → W p l e R s m args below meth c H locs cells slots Q (F0 m 121 ls [])) :
    ∀ (n : Nat) (i : Nat) (f' : Nat → va_E) (h' : Nat → Int32) (H : Heap) (locs : List Loc) (ls : Array Slot), i ≤ nb → nb + 1 ≤ i + n → (∀ j, j < i → h' j = nI (bs k (P + j))) → modG kc L f' tg d mst ow ix bb cpy gb hm9 ho9 hi9 h' 0 nm mo om al bs → Ext SD L f tg (L, f') tg → pw D Cls A s.heap H locs L f' → lv_has ls 8 [(7, .int (nI i)), (0, .ref d), (1, .int (nI k)), (2, .int (nI P)), (3, .int m2), (4, .int t2), (5, .int (nI nb))] → W p l e R s m args below meth c H locs cells slots Q (F0 m 90 ls []) := by
  obtain ⟨⟨⟨hx, hb, hml, hown, hts⟩, hret9, hlocks⟩, hK, hE, hA⟩ := id hC
  intro n
  induction n with
  | zero => intro i f' h' H locs ls hi hin hd hm he hw hl; exact absurd hin (by omega)
  | succ n ih =>
    intro i f' h' H locs ls hi hin hd hm he hw hl
    obtain ⟨⟨hdL, htd, hfd⟩, -, -, -, -, ⟨hcL, htc, hfc⟩, -⟩ := id hm
    obtain ⟨hs1, hs2, hs3, hs4, hs5, hs6⟩ := id hs
    have hcl := cnt_le om k al
    refine lv_iload hx hb d_D_copy_90 (lv_at hl 0 rfl) ?_
    refine lv_iload hx hb d_D_copy_92 (lv_at hl 6 rfl) ?_
    refine lv_icmp_ge (tgt := 121) hx hb d_D_copy_94 (by decide) (fun c1 => ?_) (fun c1 => ?_)
    · have e : i = nb := by
        rcases Nat.lt_or_ge i nb with q | q
        · exact absurd c1 (nI_ge q (by omega))
        · omega
      subst e
      exact kont f' h' H locs ls hd hm he hw (lv_sub hl [1, 4, 5, 6] rfl)
    · have hlt : i < nb := by
        rcases Nat.lt_or_ge i nb with q | q
        · exact q
        · exact absurd (nI_le q (by omega)) c1
      refine lv_aload_n hx hb d_D_copy_97 rfl (lv_at hl 1 rfl) ?_
      refine get_D hC hw hdL hfd 7 (by decide) k_fl_D_25 rfl d_D_copy_98 ?_
      refine lv_iload hx hb d_D_copy_101 (lv_at hl 0 rfl) ?_
      refine lv_aload_n hx hb d_D_copy_103 rfl (lv_at hl 1 rfl) ?_
      refine lv_iload_n hx hb d_D_copy_104 rfl (lv_at hl 2 rfl) ?_
      refine lv_iload_n hx hb d_D_copy_105 rfl (lv_at hl 3 rfl) ?_
      refine lv_i2l hx hb d_D_copy_106 rfl ?_
      refine tp_l (v := lN P) (nI_toI64 _ (by omega)) ?_
      refine lv_iload hx hb d_D_copy_107 (lv_at hl 0 rfl) ?_
      refine lv_i2l hx hb d_D_copy_109 rfl ?_
      refine tp_l (v := lN i) (nI_toI64 _ (by omega)) ?_
      refine lv_ladd hx hb d_D_copy_110 ?_
      refine tp_l (v := lN (P + i)) (lN_add _ _) ?_
      refine callVi (As := [.int (nI k), .long (lN (P + i))]) (n9 := 2) hC hw (c_D_get l D kc _ _ _ d mst ow ix bb cpy gb hm9 ho9 hi9 h' tg 0 nm mo om al bs hm hs k hk (P + i) (by omega)) k_co_D_get k_ml_D_80 k_im_D_get k_se_D_get k_in_D rfl rfl (by decide +kernel) rfl ⟨Nat.le_trans (Nat.le_of_ble_eq_true rfl) hRf, Nat.le_trans (Nat.le_of_ble_eq_true rfl) hRl⟩ hdL hfd rfl hl.1 rfl (Nat.le_of_ble_eq_true rfl) d_D_copy_111 ⟨hcs.1, hcs.2⟩ (fun r9 u H locs hp hw => ?_)
      obtain ⟨rfl, rfl⟩ := hp
      refine ast_I hC hw hcL hfc (show i < 4096 by omega) (by decide) d_D_copy_114 (fun H locs hw => ?_)
      obtain ⟨hm2, he2⟩ := mod_cp hm (upd h' i (nI (bs k (P + i))))
      refine lv_iinc (v := nI (i + 1)) (lv' := [(7, .int (nI (i + 1))), (0, .ref d), (1, .int (nI k)), (2, .int (nI P)), (3, .int m2), (4, .int t2), (5, .int (nI nb))]) hx hb d_D_copy_115 hl (k := 0) rfl (nI_1 i) (by decide) rfl (fun ls hl => ?_)
      refine lv_goto (tgt := 90) hx hb d_D_copy_118 (by decide) ?_
      refine ih (i + 1) _ _ _ _ _ (by omega) (by omega) (fun j hj => ?_) hm2 (he.tr he2) hw (lv_sub hl [0, 1, 2, 3, 4, 5, 6] rfl)
      by_cases q : j = i
      · rw [q, pk_us]
      · rw [pk_un q]; exact hd j (by omega)
set_option maxHeartbeats 4000000 in
set_option maxRecDepth 100000 in
theorem lp_dcp2 {p : Program} {l : Launch} {e : Env} {R : Room} {s : State} {m : MethodId} {args : Array Value} {below : List Frame} {meth : Method} {c : Code} {Q : State → Prop} {A : Nat → Prop} {D : va_G} {kc : Nat → ClassId} {c0 : Cond} {ret : Option FieldType} {L : List Nat} {f : Nat → va_E} {d mst ow ix bb cpy : Nat} {hm9 ho9 hi9 hc9 : Nat → Int32} {tg : Nat → Nat × Nat} {nm : Nat} {mo : Nat → Int32} {om : Nat → Nat} {al : Nat} {bs : Nat → Nat → Nat} (hs : stOK nm mo om al bs) (hcs : 5 ≤ R.cells ∧ 5120 ≤ R.slots) (k : Nat) (hk : k < nm) (P0 nb : Nat) (src : Nat → Nat) (hsr : ∀ j, j < nb → hc9 j = nI (src j)) (hsl : ∀ j, src j < 256) (hP : P0 + nb ≤ 65536 * cnt om al k) (hnb : nb ≤ 4096) (hC : Kx p m c b_D_copy 8 s args c0 R_D meth ret D kc A) (hRf : 2 ≤ R.frames) (hRl : 51 ≤ R.locals)
    (kont : ∀ (c9 : Nat) (L' : List Nat) (f' : Nat → va_E) (tg' : Nat → Nat × Nat) (gb' : Nat → Option Nat) (H : Heap) (locs : List Loc) (ls : Array Slot), c9 ≤ 5 → modG kc L' f' tg' d mst ow ix bb cpy gb' hm9 ho9 hi9 hc9 0 nm mo om al (va_up bs k (cpN (bs k) P0 nb src)) → Ext SD L f tg (L', f') tg' → pw D Cls A s.heap H locs L' f' → W p l e R s m args below meth c H locs c9 (1024 * c9) Q (F0 m 156 ls [])) :
    ∀ (n : Nat) (i : Nat) (c9 : Nat) (L' : List Nat) (f' : Nat → va_E) (tg' : Nat → Nat × Nat) (gb' : Nat → Option Nat) (H : Heap) (locs : List Loc) (ls : Array Slot), i ≤ nb → nb + 1 ≤ i + n → (c9 ≤ (P0 + i) / 1024 - P0 / 1024 ∨ (c9 ≤ (P0 + i) / 1024 - P0 / 1024 + 1 ∧ ∀ R, isRow om al k (P0 + i) R → gb' R ≠ none)) → modG kc L' f' tg' d mst ow ix bb cpy gb' hm9 ho9 hi9 hc9 0 nm mo om al (va_up bs k (cpN (bs k) P0 i src)) → Ext SD L f tg (L', f') tg' → pw D Cls A s.heap H locs L' f' → lv_has ls 8 [(7, .int (nI i)), (0, .ref d), (3, .int (nI k)), (4, .int (nI P0)), (5, .int (nI nb))] → W p l e R s m args below meth c H locs c9 (1024 * c9) Q (F0 m 124 ls []) := by
  obtain ⟨⟨⟨hx, hb, hml, hown, hts⟩, hret9, hlocks⟩, hK, hE, hA⟩ := id hC
  intro n
  induction n with
  | zero => intro i c9 L' f' tg' gb' H locs ls hi hin hcn hm he hw hl; exact absurd hin (by omega)
  | succ n ih =>
    intro i c9 L' f' tg' gb' H locs ls hi hin hcn hm he hw hl
    obtain ⟨⟨hdL, htd, hfd⟩, -, -, -, -, ⟨hcL, htc, hfc⟩, -⟩ := id hm
    obtain ⟨hs1, hs2, hs3, hs4, hs5, hs6⟩ := id hs
    have hcl := cnt_le om k al
    refine lv_iload hx hb d_D_copy_124 (lv_at hl 0 rfl) ?_
    refine lv_iload hx hb d_D_copy_126 (lv_at hl 4 rfl) ?_
    refine lv_icmp_ge (tgt := 156) hx hb d_D_copy_128 (by decide) (fun c1 => ?_) (fun c1 => ?_)
    · have e : i = nb := by
        rcases Nat.lt_or_ge i nb with q | q
        · exact absurd c1 (nI_ge q (by omega))
        · omega
      subst e
      exact kont c9 L' f' tg' gb' H locs ls (by omega) hm he hw
    · have hlt : i < nb := by
        rcases Nat.lt_or_ge i nb with q | q
        · exact q
        · exact absurd (nI_le q (by omega)) c1
      refine lv_aload_n hx hb d_D_copy_131 rfl (lv_at hl 1 rfl) ?_
      refine lv_iload_n hx hb d_D_copy_132 rfl (lv_at hl 2 rfl) ?_
      refine lv_iload hx hb d_D_copy_133 (lv_at hl 3 rfl) ?_
      refine lv_i2l hx hb d_D_copy_135 rfl ?_
      refine tp_l (v := lN P0) (nI_toI64 _ (by omega)) ?_
      refine lv_iload hx hb d_D_copy_136 (lv_at hl 0 rfl) ?_
      refine lv_i2l hx hb d_D_copy_138 rfl ?_
      refine tp_l (v := lN i) (nI_toI64 _ (by omega)) ?_
      refine lv_ladd hx hb d_D_copy_139 ?_
      refine tp_l (v := lN (P0 + i)) (lN_add _ _) ?_
      refine lv_aload_n hx hb d_D_copy_140 rfl (lv_at hl 1 rfl) ?_
      refine get_D hC hw hdL hfd 7 (by decide) k_fl_D_25 rfl d_D_copy_141 ?_
      refine lv_iload hx hb d_D_copy_144 (lv_at hl 0 rfl) ?_
      refine ald_I hC hw hcL hfc (by omega) (by decide) d_D_copy_146 ?_
      refine tp_i (v := nI (src i)) (hsr i hlt) ?_
      obtain ⟨R0, hR0⟩ := isRow_ex (om := om) (al := al) (k := k) (p := P0 + i) (by omega)
      by_cases hg9 : gb' R0 = none
      · have hc2 : c9 ≤ (P0 + i) / 1024 - P0 / 1024 := by
          rcases hcn with q | q
          · exact q
          · exact absurd hg9 (q.2 R0 hR0)
        have hall : ∀ R, isRow om al k (P0 + i) R → gb' R = none := fun R h => by rw [isRow_un h hR0 rfl]; exact hg9
        rcases Nat.eq_zero_or_pos (src i) with hv0 | hvp
        · refine tp_i (v := nI 0) (by rw [hv0]) ?_
          refine callVv (As := [.int (nI k), .long (lN (P0 + i)), .int (nI 0)]) (n9 := 3) hC hw (c_D_put_zero l D kc _ _ _ d mst ow ix bb cpy gb' hm9 ho9 hi9 hc9 tg' 0 nm mo om al (va_up bs k (cpN (bs k) P0 i src)) hm (stOK_mem hs (cpN_ok (hs5 k) (hs6 k) hsl i (by omega)).1 (cpN_ok (hs5 k) (hs6 k) hsl i (by omega)).2) k hk (P0 + i) (by omega) hall) k_co_D_put k_ml_D_85 k_im_D_put k_se_D_put k_in_D rfl rfl (by decide +kernel) rfl ⟨Nat.le_trans (Nat.le_of_ble_eq_true rfl) hRf, Nat.le_trans (Nat.le_of_ble_eq_true rfl) hRl⟩ hdL hfd rfl hl.1 rfl (Nat.le_of_ble_eq_true rfl) d_D_copy_147 ⟨(by omega), (by omega)⟩ (fun u H locs hp hw => ?_)
          obtain ⟨tg2, gb2, hm2, hkp, hgn, he2⟩ := hp
          obtain ⟨L2, f2⟩ := u
          dsimp only at hw hm2 he2
          rw [upk] at hm2
          rw [← hv0] at hm2
          rw [cpN_s] at hm2
          refine lv_iinc (v := nI (i + 1)) (lv' := [(7, .int (nI (i + 1))), (0, .ref d), (3, .int (nI k)), (4, .int (nI P0)), (5, .int (nI nb))]) hx hb d_D_copy_150 hl (k := 0) rfl (nI_1 i) (by decide) rfl (fun ls hl => ?_)
          refine lv_goto (tgt := 124) hx hb d_D_copy_153 (by decide) ?_
          refine ih (i + 1) c9 L2 f2 tg2 gb2 _ _ _ (by omega) (by omega) ?_ hm2 (he.tr he2) hw (lv_sub hl [0, 1, 2, 3, 4] rfl)
          left
          omega
        · refine callVv (As := [.int (nI k), .long (lN (P0 + i)), .int (nI (src i))]) (n9 := 3) hC hw (c_D_put_new l D kc _ _ _ d mst ow ix bb cpy gb' hm9 ho9 hi9 hc9 tg' 0 nm mo om al (va_up bs k (cpN (bs k) P0 i src)) hm (stOK_mem hs (cpN_ok (hs5 k) (hs6 k) hsl i (by omega)).1 (cpN_ok (hs5 k) (hs6 k) hsl i (by omega)).2) k hk (P0 + i) (by omega) (src i) (hsl i) hvp hall) k_co_D_put k_ml_D_85 k_im_D_put k_se_D_put k_in_D rfl rfl (by decide +kernel) rfl ⟨Nat.le_trans (Nat.le_of_ble_eq_true rfl) hRf, Nat.le_trans (Nat.le_of_ble_eq_true rfl) hRl⟩ hdL hfd rfl hl.1 rfl (Nat.le_of_ble_eq_true rfl) d_D_copy_147 ⟨(by omega), (by omega)⟩ (fun u H locs hp hw => ?_)
          obtain ⟨tg2, gb2, hm2, hkp, hgn, he2⟩ := hp
          obtain ⟨L2, f2⟩ := u
          dsimp only at hw hm2 he2
          rw [upk] at hm2
          refine W.cs (cells' := c9 + 1) (slots' := 1024 * (c9 + 1)) rfl (by omega) ?_
          rw [cpN_s] at hm2
          refine lv_iinc (v := nI (i + 1)) (lv' := [(7, .int (nI (i + 1))), (0, .ref d), (3, .int (nI k)), (4, .int (nI P0)), (5, .int (nI nb))]) hx hb d_D_copy_150 hl (k := 0) rfl (nI_1 i) (by decide) rfl (fun ls hl => ?_)
          refine lv_goto (tgt := 124) hx hb d_D_copy_153 (by decide) ?_
          refine ih (i + 1) (c9 + 1) L2 f2 tg2 gb2 _ _ _ (by omega) (by omega) ?_ hm2 (he.tr he2) hw (lv_sub hl [0, 1, 2, 3, 4] rfl)
          by_cases e : (P0 + (i + 1)) / 1024 = (P0 + i) / 1024
          · right
            refine ⟨by omega, fun R h => ?_⟩
            rw [isRow_un h hR0 e]
            exact hgn R0 hR0
          · left; omega
      · have hc2 : c9 ≤ (P0 + i) / 1024 - P0 / 1024 + 1 := by
          rcases hcn with q | q
          · omega
          · exact q.1
        have hall : ∀ R, isRow om al k (P0 + i) R → gb' R ≠ none := fun R h => by rw [isRow_un h hR0 rfl]; exact hg9
        refine callVv (As := [.int (nI k), .long (lN (P0 + i)), .int (nI (src i))]) (n9 := 3) hC hw (c_D_put_row l D kc _ _ _ d mst ow ix bb cpy gb' hm9 ho9 hi9 hc9 tg' 0 nm mo om al (va_up bs k (cpN (bs k) P0 i src)) hm (stOK_mem hs (cpN_ok (hs5 k) (hs6 k) hsl i (by omega)).1 (cpN_ok (hs5 k) (hs6 k) hsl i (by omega)).2) k hk (P0 + i) (by omega) (src i) (hsl i) hall) k_co_D_put k_ml_D_85 k_im_D_put k_se_D_put k_in_D rfl rfl (by decide +kernel) rfl ⟨Nat.le_trans (Nat.le_of_ble_eq_true rfl) hRf, Nat.le_trans (Nat.le_of_ble_eq_true rfl) hRl⟩ hdL hfd rfl hl.1 rfl (Nat.le_of_ble_eq_true rfl) d_D_copy_147 ⟨(by omega), (by omega)⟩ (fun u H locs hp hw => ?_)
        obtain ⟨tg2, gb2, hm2, hkp, hgn, he2⟩ := hp
        obtain ⟨L2, f2⟩ := u
        dsimp only at hw hm2 he2
        rw [upk] at hm2
        rw [cpN_s] at hm2
        refine lv_iinc (v := nI (i + 1)) (lv' := [(7, .int (nI (i + 1))), (0, .ref d), (3, .int (nI k)), (4, .int (nI P0)), (5, .int (nI nb))]) hx hb d_D_copy_150 hl (k := 0) rfl (nI_1 i) (by decide) rfl (fun ls hl => ?_)
        refine lv_goto (tgt := 124) hx hb d_D_copy_153 (by decide) ?_
        refine ih (i + 1) c9 L2 f2 tg2 gb2 _ _ _ (by omega) (by omega) ?_ hm2 (he.tr he2) hw (lv_sub hl [0, 1, 2, 3, 4] rfl)
        by_cases e : (P0 + (i + 1)) / 1024 = (P0 + i) / 1024
        · right
          refine ⟨by omega, fun R h => ?_⟩
          rw [isRow_un h hR0 e]
          exact hgn R0 hR0
        · left; omega
set_option maxHeartbeats 4000000 in
set_option maxRecDepth 100000 in
theorem c_D_copy (l : Launch) (D : va_G) (kc : Nat → ClassId) (L : List Nat) (f : Nat → va_E) (sz : Nat) (d mst ow ix bb cpy : Nat) (gb : Nat → Option Nat) (hm9 ho9 hi9 hc9 : Nat → Int32) (tg : Nat → Nat × Nat) (th : Int32) (nm : Nat) (mo : Nat → Int32) (om : Nat → Nat) (al : Nat) (bs : Nat → Nat → Nat) (hg : modG kc L f tg d mst ow ix bb cpy gb hm9 ho9 hi9 hc9 th nm mo om al bs) (hs : stOK nm mo om al bs) (mm fr m2 to9 cn : Int32) : Met l y_D_copy w_D_copy ({ frames := 2, cells := 5, slots := 5120, locals := 51 }) (PP D kc L f sz [.ref d, .int mm, .int fr, .int m2, .int to9, .int cn]) (Qv D L f sz (fun u => ∃ t9 tg', Ext SD L f tg u tg' ∧ ((t9 = 1 ∧ ¬ ((∃ k, k < nm ∧ mm = nI k) ∧ (∃ k, k < nm ∧ m2 = nI k) ∧ ¬ cn < 0 ∧ cn ≤ 4096) ∧ modP kc u.1 u.2 tg' d t9 nm mo om al bs) ∨ (t9 = 2 ∧ ∃ k1, k1 < nm ∧ mm = nI k1 ∧ ∃ k2, k2 < nm ∧ m2 = nI k2 ∧ ∃ nb, nb ≤ 4096 ∧ cn = nI nb ∧ 0 < nb ∧ ¬ ((∃ P, fr = nI P ∧ P + nb ≤ 65536 * cnt om al k1) ∧ ∃ P2, to9 = nI P2 ∧ P2 + nb ≤ 65536 * cnt om al k2) ∧ modP kc u.1 u.2 tg' d t9 nm mo om al bs) ∨ (t9 = 0 ∧ ∃ k1, k1 < nm ∧ mm = nI k1 ∧ ∃ k2, k2 < nm ∧ m2 = nI k2 ∧ ∃ nb, nb ≤ 4096 ∧ cn = nI nb ∧ ((nb = 0 ∧ modP kc u.1 u.2 tg' d t9 nm mo om al bs) ∨ (0 < nb ∧ ∃ P, fr = nI P ∧ P + nb ≤ 65536 * cnt om al k1 ∧ ∃ P2, to9 = nI P2 ∧ P2 + nb ≤ 65536 * cnt om al k2 ∧ modP kc u.1 u.2 tg' d t9 nm mo om al (va_up bs k2 (cpN (bs k2) P2 nb (fun j => bs k1 (P + j)))))))))) 5 5120 (pA L f sz) := by
  refine kx_met (by decide) (Nat.le_of_ble_eq_true rfl) ?_
  intro p e s m below meth c hC hnm hw hsz ls hl
  subst hsz
  have hl : lv_has ls 8 [(0, .ref d), (1, .int mm), (2, .int fr), (3, .int m2), (4, .int to9), (5, .int cn)] := hl
  obtain ⟨⟨⟨hx, hb, hml, hown, hts⟩, hret9, hlocks⟩, hK, hE, hA⟩ := id hC
  obtain ⟨⟨hdL, htd, hfd⟩, ⟨hmL, htm, hfm⟩, ⟨hoL, hto, hfo⟩, ⟨hiL, hti, hfi⟩, ⟨hbL, htb, hfb⟩, ⟨hcL, htc, hfc⟩, hk1, hk2, hk3⟩ := id hg
  obtain ⟨hs1, hs2, hs3, hs4, hs5, hs6⟩ := id hs
  refine lv_aload_n hx hb d_D_copy_0 rfl (lv_at hl 0 rfl) ?_
  refine lv_iload_n hx hb d_D_copy_1 rfl (lv_at hl 1 rfl) ?_
  refine callVi (As := [.int mm]) (n9 := 1) hC hw (c_D_isMemory l D kc _ _ _ d mst ow ix bb cpy gb hm9 ho9 hi9 hc9 tg th nm mo om al bs hg hs mm) k_co_D_isMemory k_ml_D_51 k_im_D_isMemory k_se_D_isMemory k_in_D rfl rfl (by decide +kernel) rfl ⟨Nat.le_of_ble_eq_true rfl, Nat.le_of_ble_eq_true rfl⟩ hdL hfd rfl hl.1 rfl (Nat.le_of_ble_eq_true rfl) d_D_copy_2 ⟨Nat.le_of_ble_eq_true rfl, Nat.le_of_ble_eq_true rfl⟩ (fun r9 u H locs hp hw => ?_)
  obtain ⟨hp, rfl⟩ := hp
  rcases hp with ⟨rfl, k1, hkn1, rfl⟩ | ⟨rfl, hno⟩
  · refine lv_if_eq (tgt := 33) hx hb d_D_copy_5 (by decide) (fun c0 => ((by decide : ¬ (1 : Int32) = 0) c0).elim) (fun c0 => ?_)
    refine lv_aload_n hx hb d_D_copy_8 rfl (lv_at hl 0 rfl) ?_
    refine lv_iload_n hx hb d_D_copy_9 rfl (lv_at hl 3 rfl) ?_
    refine callVi (As := [.int m2]) (n9 := 1) hC hw (c_D_isMemory l D kc _ _ _ d mst ow ix bb cpy gb hm9 ho9 hi9 hc9 tg th nm mo om al bs hg hs m2) k_co_D_isMemory k_ml_D_51 k_im_D_isMemory k_se_D_isMemory k_in_D rfl rfl (by decide +kernel) rfl ⟨Nat.le_of_ble_eq_true rfl, Nat.le_of_ble_eq_true rfl⟩ hdL hfd rfl hl.1 rfl (Nat.le_of_ble_eq_true rfl) d_D_copy_10 ⟨Nat.le_of_ble_eq_true rfl, Nat.le_of_ble_eq_true rfl⟩ (fun r9 u H locs hp hw => ?_)
    obtain ⟨hp, rfl⟩ := hp
    rcases hp with ⟨rfl, k2, hkn2, rfl⟩ | ⟨rfl, hno⟩
    · refine lv_if_eq (tgt := 33) hx hb d_D_copy_13 (by decide) (fun c1 => ((by decide : ¬ (1 : Int32) = 0) c1).elim) (fun c1 => ?_)
      have hcl1 := cnt_le om k1 al
      have hcl2 := cnt_le om k2 al
      refine lv_iload hx hb d_D_copy_16 (lv_at hl 5 rfl) ?_
      refine lv_if_lt (tgt := 33) hx hb d_D_copy_18 (by decide) (fun c2 => ?_) (fun c2 => ?_)
      · refine lv_iconst (v := 0) hx hb d_D_copy_33 (by decide) ?_
        refine lv_istore (lv' := [(6, .int 0), (0, .ref d), (1, .int (nI k1)), (2, .int fr), (3, .int (nI k2)), (4, .int to9), (5, .int cn)]) hx hb d_D_copy_34 hl (by decide) rfl (fun ls hl => ?_)
        refine lv_aload_n hx hb d_D_copy_36 rfl (lv_at hl 1 rfl) ?_
        refine lv_iload hx hb d_D_copy_37 (lv_at hl 0 rfl) ?_
        refine lv_if_ne (tgt := 46) hx hb d_D_copy_39 (by decide) (fun cx => (cx rfl).elim) (fun cx => ?_)
        refine lv_iconst (v := 1) hx hb d_D_copy_42 (by decide) ?_
        refine lv_goto (tgt := 76) hx hb d_D_copy_43 (by decide) ?_
        refine put_D hC hw hdL hfd 0 (by decide) k_fl_D_28 rfl rfl rfl (Nat.le_of_ble_eq_true rfl) d_D_copy_76 (fun H locs hw => ?_)
        obtain ⟨f1, hf1⟩ : ∃ F, F = va_up f d (.inr (3, [.int 1, .int (nI nm), .ref mst, .int (nI al), .ref ow, .ref ix, .ref bb, .ref cpy])) := ⟨_, rfl⟩
        have hw := pw_as (f' := f1) hw rfl hf1.symm
        obtain ⟨hg1, he1⟩ := mod_th hg 1
        rw [← hf1] at hg1 he1
        obtain ⟨⟨hdL1, htd1, hfd1⟩, ⟨hmL1, htm1, hfm1⟩, ⟨hoL1, hto1, hfo1⟩, ⟨hiL1, hti1, hfi1⟩, ⟨hbL1, htb1, hfb1⟩, ⟨hcL1, htc1, hfc1⟩, hk11, hk21, hk31⟩ := id hg1
        refine lv_aload_n hx hb d_D_copy_79 rfl (lv_at hl 1 rfl) ?_
        refine get_D hC hw hdL1 hfd1 0 (by decide) k_fl_D_28 rfl d_D_copy_80 ?_
        refine lv_if_le (tgt := 87) hx hb d_D_copy_83 (by decide) (fun cy => ((by decide : ¬ (1 : Int32) ≤ 0) cy).elim) (fun cy => ?_)
        refine W.widen (k := 5) (n := 5120) (by omega) (by omega) ?_
        exact pg_vret hC.1 hw (⟨1, tg, he1, Or.inl ⟨rfl, fun h => h.2.2.1 c2, ⟨mst, ow, ix, bb, cpy, gb, hm9, ho9, hi9, hc9, hg1⟩⟩⟩) d_D_copy_86
      · refine lv_iload hx hb d_D_copy_21 (lv_at hl 5 rfl) ?_
        refine lv_sipush (v := 4096) hx hb d_D_copy_23 (by decide) ?_
        refine lv_icmp_gt (tgt := 33) hx hb d_D_copy_26 (by decide) (fun c3 => ?_) (fun c3 => ?_)
        · refine lv_iconst (v := 0) hx hb d_D_copy_33 (by decide) ?_
          refine lv_istore (lv' := [(6, .int 0), (0, .ref d), (1, .int (nI k1)), (2, .int fr), (3, .int (nI k2)), (4, .int to9), (5, .int cn)]) hx hb d_D_copy_34 hl (by decide) rfl (fun ls hl => ?_)
          refine lv_aload_n hx hb d_D_copy_36 rfl (lv_at hl 1 rfl) ?_
          refine lv_iload hx hb d_D_copy_37 (lv_at hl 0 rfl) ?_
          refine lv_if_ne (tgt := 46) hx hb d_D_copy_39 (by decide) (fun cx => (cx rfl).elim) (fun cx => ?_)
          refine lv_iconst (v := 1) hx hb d_D_copy_42 (by decide) ?_
          refine lv_goto (tgt := 76) hx hb d_D_copy_43 (by decide) ?_
          refine put_D hC hw hdL hfd 0 (by decide) k_fl_D_28 rfl rfl rfl (Nat.le_of_ble_eq_true rfl) d_D_copy_76 (fun H locs hw => ?_)
          obtain ⟨f1, hf1⟩ : ∃ F, F = va_up f d (.inr (3, [.int 1, .int (nI nm), .ref mst, .int (nI al), .ref ow, .ref ix, .ref bb, .ref cpy])) := ⟨_, rfl⟩
          have hw := pw_as (f' := f1) hw rfl hf1.symm
          obtain ⟨hg1, he1⟩ := mod_th hg 1
          rw [← hf1] at hg1 he1
          obtain ⟨⟨hdL1, htd1, hfd1⟩, ⟨hmL1, htm1, hfm1⟩, ⟨hoL1, hto1, hfo1⟩, ⟨hiL1, hti1, hfi1⟩, ⟨hbL1, htb1, hfb1⟩, ⟨hcL1, htc1, hfc1⟩, hk11, hk21, hk31⟩ := id hg1
          refine lv_aload_n hx hb d_D_copy_79 rfl (lv_at hl 1 rfl) ?_
          refine get_D hC hw hdL1 hfd1 0 (by decide) k_fl_D_28 rfl d_D_copy_80 ?_
          refine lv_if_le (tgt := 87) hx hb d_D_copy_83 (by decide) (fun cy => ((by decide : ¬ (1 : Int32) ≤ 0) cy).elim) (fun cy => ?_)
          refine W.widen (k := 5) (n := 5120) (by omega) (by omega) ?_
          exact pg_vret hC.1 hw (⟨1, tg, he1, Or.inl ⟨rfl, fun h => Int32.not_lt.mpr h.2.2.2 c3, ⟨mst, ow, ix, bb, cpy, gb, hm9, ho9, hi9, hc9, hg1⟩⟩⟩) d_D_copy_86
        · obtain ⟨nb, hnb, rfl⟩ : ∃ j, j ≤ 4096 ∧ cn = nI j := nI_of2 (M := 4096) (n := 4096) (by decide) c2 (Int32.not_lt.mp c3)
          refine lv_iconst (v := 1) hx hb d_D_copy_29 (by decide) ?_
          refine lv_goto (tgt := 34) hx hb d_D_copy_30 (by decide) ?_
          refine lv_istore (lv' := [(6, .int 1), (0, .ref d), (1, .int (nI k1)), (2, .int fr), (3, .int (nI k2)), (4, .int to9), (5, .int (nI nb))]) hx hb d_D_copy_34 hl (by decide) rfl (fun ls hl => ?_)
          refine lv_aload_n hx hb d_D_copy_36 rfl (lv_at hl 1 rfl) ?_
          refine lv_iload hx hb d_D_copy_37 (lv_at hl 0 rfl) ?_
          refine lv_if_ne (tgt := 46) hx hb d_D_copy_39 (by decide) (fun cx => ?_) (fun cx => ((by decide : ¬ (1 : Int32) = 0) cx).elim)
          refine lv_aload_n hx hb d_D_copy_46 rfl (lv_at hl 1 rfl) ?_
          refine lv_iload_n hx hb d_D_copy_47 rfl (lv_at hl 2 rfl) ?_
          refine lv_iload_n hx hb d_D_copy_48 rfl (lv_at hl 3 rfl) ?_
          refine lv_i2l hx hb d_D_copy_49 rfl ?_
          refine lv_iload hx hb d_D_copy_50 (lv_at hl 6 rfl) ?_
          refine callVi (As := [.int (nI k1), .long fr.toInt64, .int (nI nb)]) (n9 := 3) hC hw (c_D_isThere l D kc _ _ _ d mst ow ix bb cpy gb hm9 ho9 hi9 hc9 tg th nm mo om al bs hg hs k1 hkn1 fr.toInt64 nb (by omega)) k_co_D_isThere k_ml_D_76 k_im_D_isThere k_se_D_isThere k_in_D rfl rfl (by decide +kernel) rfl ⟨Nat.le_of_ble_eq_true rfl, Nat.le_of_ble_eq_true rfl⟩ hdL hfd rfl hl.1 rfl (Nat.le_of_ble_eq_true rfl) d_D_copy_52 ⟨Nat.le_of_ble_eq_true rfl, Nat.le_of_ble_eq_true rfl⟩ (fun r9 u H locs hp hw => ?_)
          obtain ⟨hp, rfl⟩ := hp
          rw [thereP_fr (by omega) (by omega)] at hp
          rcases hp with ⟨rfl, hth⟩ | ⟨rfl, hth⟩
          · refine lv_if_eq (tgt := 71) hx hb d_D_copy_55 (by decide) (fun c4 => ((by decide : ¬ (1 : Int32) = 0) c4).elim) (fun c4 => ?_)
            refine lv_aload_n hx hb d_D_copy_58 rfl (lv_at hl 1 rfl) ?_
            refine lv_iload_n hx hb d_D_copy_59 rfl (lv_at hl 4 rfl) ?_
            refine lv_iload hx hb d_D_copy_60 (lv_at hl 5 rfl) ?_
            refine lv_i2l hx hb d_D_copy_62 rfl ?_
            refine lv_iload hx hb d_D_copy_63 (lv_at hl 6 rfl) ?_
            refine callVi (As := [.int (nI k2), .long to9.toInt64, .int (nI nb)]) (n9 := 3) hC hw (c_D_isThere l D kc _ _ _ d mst ow ix bb cpy gb hm9 ho9 hi9 hc9 tg th nm mo om al bs hg hs k2 hkn2 to9.toInt64 nb (by omega)) k_co_D_isThere k_ml_D_76 k_im_D_isThere k_se_D_isThere k_in_D rfl rfl (by decide +kernel) rfl ⟨Nat.le_of_ble_eq_true rfl, Nat.le_of_ble_eq_true rfl⟩ hdL hfd rfl hl.1 rfl (Nat.le_of_ble_eq_true rfl) d_D_copy_65 ⟨Nat.le_of_ble_eq_true rfl, Nat.le_of_ble_eq_true rfl⟩ (fun r9 u H locs hp hw => ?_)
            obtain ⟨hp, rfl⟩ := hp
            rw [thereP_fr (by omega) (by omega)] at hp
            rcases hp with ⟨rfl, hth2⟩ | ⟨rfl, hth2⟩
            · refine lv_if_ne (tgt := 75) hx hb d_D_copy_68 (by decide) (fun c5 => ?_) (fun c5 => ((by decide : ¬ (1 : Int32) = 0) c5).elim)
              refine lv_iconst (v := 0) hx hb d_D_copy_75 (by decide) ?_
              refine put_D hC hw hdL hfd 0 (by decide) k_fl_D_28 rfl rfl rfl (Nat.le_of_ble_eq_true rfl) d_D_copy_76 (fun H locs hw => ?_)
              obtain ⟨f1, hf1⟩ : ∃ F, F = va_up f d (.inr (3, [.int 0, .int (nI nm), .ref mst, .int (nI al), .ref ow, .ref ix, .ref bb, .ref cpy])) := ⟨_, rfl⟩
              have hw := pw_as (f' := f1) hw rfl hf1.symm
              obtain ⟨hg1, he1⟩ := mod_th hg 0
              rw [← hf1] at hg1 he1
              obtain ⟨⟨hdL1, htd1, hfd1⟩, ⟨hmL1, htm1, hfm1⟩, ⟨hoL1, hto1, hfo1⟩, ⟨hiL1, hti1, hfi1⟩, ⟨hbL1, htb1, hfb1⟩, ⟨hcL1, htc1, hfc1⟩, hk11, hk21, hk31⟩ := id hg1
              refine lv_aload_n hx hb d_D_copy_79 rfl (lv_at hl 1 rfl) ?_
              refine get_D hC hw hdL1 hfd1 0 (by decide) k_fl_D_28 rfl d_D_copy_80 ?_
              refine lv_if_le (tgt := 87) hx hb d_D_copy_83 (by decide) (fun cy => ?_) (fun cy => (cy (by decide)).elim)
              refine lv_iconst (v := 0) hx hb d_D_copy_87 (by decide) ?_
              refine lv_istore (lv' := [(7, .int 0), (6, .int 1), (0, .ref d), (1, .int (nI k1)), (2, .int fr), (3, .int (nI k2)), (4, .int to9), (5, .int (nI nb))]) hx hb d_D_copy_88 hl (by decide) rfl (fun ls hl => ?_)
              rcases Nat.eq_zero_or_pos nb with hz | hnz
              · subst hz
                refine lv_iload hx hb d_D_copy_90 (lv_at hl 0 rfl) ?_
                refine lv_iload hx hb d_D_copy_92 (lv_at hl 7 rfl) ?_
                refine lv_icmp_ge (tgt := 121) hx hb d_D_copy_94 (by decide) (fun cz => ?_) (fun cz => (cz (by decide)).elim)
                refine lv_iconst (v := 0) hx hb d_D_copy_121 (by decide) ?_
                refine lv_istore (lv' := [(7, .int 0), (6, .int 1), (0, .ref d), (1, .int (nI k1)), (2, .int fr), (3, .int (nI k2)), (4, .int to9), (5, .int (nI (0)))]) hx hb d_D_copy_122 hl (by decide) rfl (fun ls hl => ?_)
                refine lv_iload hx hb d_D_copy_124 (lv_at hl 0 rfl) ?_
                refine lv_iload hx hb d_D_copy_126 (lv_at hl 7 rfl) ?_
                refine lv_icmp_ge (tgt := 156) hx hb d_D_copy_128 (by decide) (fun cw => ?_) (fun cw => (cw (by decide)).elim)
                refine W.widen (k := 5) (n := 5120) (by omega) (by omega) ?_
                exact pg_vret hC.1 hw (⟨0, tg, he1, Or.inr (Or.inr ⟨rfl, k1, hkn1, rfl, k2, hkn2, rfl, 0, by decide, rfl, Or.inl ⟨rfl, ⟨mst, ow, ix, bb, cpy, gb, hm9, ho9, hi9, hc9, hg1⟩⟩⟩)⟩) d_D_copy_156
              · obtain ⟨P, rfl, hP⟩ : ∃ P, fr = nI P ∧ P + nb ≤ 65536 * cnt om al k1 := hth.elim (fun e => absurd e (by omega)) id
                obtain ⟨P2, rfl, hP2⟩ : ∃ P, to9 = nI P ∧ P + nb ≤ 65536 * cnt om al k2 := hth2.elim (fun e => absurd e (by omega)) id
                refine lp_dcp1 hs ⟨Nat.zero_le _, Nat.zero_le _⟩ k1 hkn1 P nb (nI k2) (nI P2) hP hnb hC (Nat.le_of_ble_eq_true rfl) (Nat.le_of_ble_eq_true rfl) (fun f2 h2 H locs ls hd2 hg2 he2 hw hl => ?_) (nb + 1) 0 f1 hc9 _ _ _ (Nat.zero_le _) (by omega) (fun j hj => absurd hj (Nat.not_lt_zero j)) hg1 Ext.rf hw (lv_sub hl [0, 2, 3, 4, 5, 6, 7] rfl)
                refine lv_iconst (v := 0) hx hb d_D_copy_121 (by decide) ?_
                refine lv_istore (lv' := [(7, .int 0), (0, .ref d), (3, .int (nI k2)), (4, .int (nI P2)), (5, .int (nI nb))]) hx hb d_D_copy_122 hl (by decide) rfl (fun ls hl => ?_)
                have hb0 : va_up bs k2 (cpN (bs k2) P2 0 (fun j => bs k1 (P + j))) = bs := by
                  funext z
                  by_cases q : z = k2
                  · rw [q, va_up_self]; funext j; exact cpN_out (by omega)
                  · rw [va_up_ne _ _ q]
                refine lp_dcp2 hs ⟨Nat.le_refl _, Nat.le_refl _⟩ k2 hkn2 P2 nb (fun j => bs k1 (P + j)) hd2 (fun j => hs6 k1 _) hP2 hnb hC (Nat.le_of_ble_eq_true rfl) (Nat.le_of_ble_eq_true rfl) (fun c9 L3 f3 tg3 gb3 H locs ls hcn hm3 he3 hw => ?_) (nb + 1) 0 0 L f2 tg gb _ _ _ (Nat.zero_le _) (by omega) (Or.inl (Nat.zero_le _)) (by rw [hb0]; exact hg2) Ext.rf hw (lv_sub hl [0, 1, 2, 3, 4] rfl)
                refine W.widen (k := 5) (n := 5120) (by omega) (by omega) ?_
                exact pg_vret hC.1 hw (⟨0, tg3, (he1.tr he2).tr he3, Or.inr (Or.inr ⟨rfl, k1, hkn1, rfl, k2, hkn2, rfl, nb, hnb, rfl, Or.inr ⟨hnz, P, rfl, hP, P2, rfl, hP2, mst, ow, ix, bb, cpy, gb3, hm9, ho9, hi9, h2, hm3⟩⟩)⟩) d_D_copy_156
            · refine lv_if_ne (tgt := 75) hx hb d_D_copy_68 (by decide) (fun c5 => (c5 rfl).elim) (fun c5 => ?_)
              refine lv_iconst (v := 2) hx hb d_D_copy_71 (by decide) ?_
              refine lv_goto (tgt := 76) hx hb d_D_copy_72 (by decide) ?_
              refine put_D hC hw hdL hfd 0 (by decide) k_fl_D_28 rfl rfl rfl (Nat.le_of_ble_eq_true rfl) d_D_copy_76 (fun H locs hw => ?_)
              obtain ⟨f1, hf1⟩ : ∃ F, F = va_up f d (.inr (3, [.int 2, .int (nI nm), .ref mst, .int (nI al), .ref ow, .ref ix, .ref bb, .ref cpy])) := ⟨_, rfl⟩
              have hw := pw_as (f' := f1) hw rfl hf1.symm
              obtain ⟨hg1, he1⟩ := mod_th hg 2
              rw [← hf1] at hg1 he1
              obtain ⟨⟨hdL1, htd1, hfd1⟩, ⟨hmL1, htm1, hfm1⟩, ⟨hoL1, hto1, hfo1⟩, ⟨hiL1, hti1, hfi1⟩, ⟨hbL1, htb1, hfb1⟩, ⟨hcL1, htc1, hfc1⟩, hk11, hk21, hk31⟩ := id hg1
              refine lv_aload_n hx hb d_D_copy_79 rfl (lv_at hl 1 rfl) ?_
              refine get_D hC hw hdL1 hfd1 0 (by decide) k_fl_D_28 rfl d_D_copy_80 ?_
              refine lv_if_le (tgt := 87) hx hb d_D_copy_83 (by decide) (fun cy => ((by decide : ¬ (2 : Int32) ≤ 0) cy).elim) (fun cy => ?_)
              refine W.widen (k := 5) (n := 5120) (by omega) (by omega) ?_
              exact pg_vret hC.1 hw (⟨2, tg, he1, Or.inr (Or.inl ⟨rfl, k1, hkn1, rfl, k2, hkn2, rfl, nb, hnb, rfl, Nat.pos_of_ne_zero (fun e => hth2 (Or.inl e)), fun h => hth2 (Or.inr h.2), ⟨mst, ow, ix, bb, cpy, gb, hm9, ho9, hi9, hc9, hg1⟩⟩)⟩) d_D_copy_86
          · refine lv_if_eq (tgt := 71) hx hb d_D_copy_55 (by decide) (fun c4 => ?_) (fun c4 => (c4 rfl).elim)
            refine lv_iconst (v := 2) hx hb d_D_copy_71 (by decide) ?_
            refine lv_goto (tgt := 76) hx hb d_D_copy_72 (by decide) ?_
            refine put_D hC hw hdL hfd 0 (by decide) k_fl_D_28 rfl rfl rfl (Nat.le_of_ble_eq_true rfl) d_D_copy_76 (fun H locs hw => ?_)
            obtain ⟨f1, hf1⟩ : ∃ F, F = va_up f d (.inr (3, [.int 2, .int (nI nm), .ref mst, .int (nI al), .ref ow, .ref ix, .ref bb, .ref cpy])) := ⟨_, rfl⟩
            have hw := pw_as (f' := f1) hw rfl hf1.symm
            obtain ⟨hg1, he1⟩ := mod_th hg 2
            rw [← hf1] at hg1 he1
            obtain ⟨⟨hdL1, htd1, hfd1⟩, ⟨hmL1, htm1, hfm1⟩, ⟨hoL1, hto1, hfo1⟩, ⟨hiL1, hti1, hfi1⟩, ⟨hbL1, htb1, hfb1⟩, ⟨hcL1, htc1, hfc1⟩, hk11, hk21, hk31⟩ := id hg1
            refine lv_aload_n hx hb d_D_copy_79 rfl (lv_at hl 1 rfl) ?_
            refine get_D hC hw hdL1 hfd1 0 (by decide) k_fl_D_28 rfl d_D_copy_80 ?_
            refine lv_if_le (tgt := 87) hx hb d_D_copy_83 (by decide) (fun cy => ((by decide : ¬ (2 : Int32) ≤ 0) cy).elim) (fun cy => ?_)
            refine W.widen (k := 5) (n := 5120) (by omega) (by omega) ?_
            exact pg_vret hC.1 hw (⟨2, tg, he1, Or.inr (Or.inl ⟨rfl, k1, hkn1, rfl, k2, hkn2, rfl, nb, hnb, rfl, Nat.pos_of_ne_zero (fun e => hth (Or.inl e)), fun h => hth (Or.inr h.1), ⟨mst, ow, ix, bb, cpy, gb, hm9, ho9, hi9, hc9, hg1⟩⟩)⟩) d_D_copy_86
    · refine lv_if_eq (tgt := 33) hx hb d_D_copy_13 (by decide) (fun c1 => ?_) (fun c1 => (c1 rfl).elim)
      refine lv_iconst (v := 0) hx hb d_D_copy_33 (by decide) ?_
      refine lv_istore (lv' := [(6, .int 0), (0, .ref d), (1, .int (nI k1)), (2, .int fr), (3, .int m2), (4, .int to9), (5, .int cn)]) hx hb d_D_copy_34 hl (by decide) rfl (fun ls hl => ?_)
      refine lv_aload_n hx hb d_D_copy_36 rfl (lv_at hl 1 rfl) ?_
      refine lv_iload hx hb d_D_copy_37 (lv_at hl 0 rfl) ?_
      refine lv_if_ne (tgt := 46) hx hb d_D_copy_39 (by decide) (fun cx => (cx rfl).elim) (fun cx => ?_)
      refine lv_iconst (v := 1) hx hb d_D_copy_42 (by decide) ?_
      refine lv_goto (tgt := 76) hx hb d_D_copy_43 (by decide) ?_
      refine put_D hC hw hdL hfd 0 (by decide) k_fl_D_28 rfl rfl rfl (Nat.le_of_ble_eq_true rfl) d_D_copy_76 (fun H locs hw => ?_)
      obtain ⟨f1, hf1⟩ : ∃ F, F = va_up f d (.inr (3, [.int 1, .int (nI nm), .ref mst, .int (nI al), .ref ow, .ref ix, .ref bb, .ref cpy])) := ⟨_, rfl⟩
      have hw := pw_as (f' := f1) hw rfl hf1.symm
      obtain ⟨hg1, he1⟩ := mod_th hg 1
      rw [← hf1] at hg1 he1
      obtain ⟨⟨hdL1, htd1, hfd1⟩, ⟨hmL1, htm1, hfm1⟩, ⟨hoL1, hto1, hfo1⟩, ⟨hiL1, hti1, hfi1⟩, ⟨hbL1, htb1, hfb1⟩, ⟨hcL1, htc1, hfc1⟩, hk11, hk21, hk31⟩ := id hg1
      refine lv_aload_n hx hb d_D_copy_79 rfl (lv_at hl 1 rfl) ?_
      refine get_D hC hw hdL1 hfd1 0 (by decide) k_fl_D_28 rfl d_D_copy_80 ?_
      refine lv_if_le (tgt := 87) hx hb d_D_copy_83 (by decide) (fun cy => ((by decide : ¬ (1 : Int32) ≤ 0) cy).elim) (fun cy => ?_)
      refine W.widen (k := 5) (n := 5120) (by omega) (by omega) ?_
      exact pg_vret hC.1 hw (⟨1, tg, he1, Or.inl ⟨rfl, fun h => hno h.2.1, ⟨mst, ow, ix, bb, cpy, gb, hm9, ho9, hi9, hc9, hg1⟩⟩⟩) d_D_copy_86
  · refine lv_if_eq (tgt := 33) hx hb d_D_copy_5 (by decide) (fun c0 => ?_) (fun c0 => (c0 rfl).elim)
    refine lv_iconst (v := 0) hx hb d_D_copy_33 (by decide) ?_
    refine lv_istore (lv' := [(6, .int 0), (0, .ref d), (1, .int mm), (2, .int fr), (3, .int m2), (4, .int to9), (5, .int cn)]) hx hb d_D_copy_34 hl (by decide) rfl (fun ls hl => ?_)
    refine lv_aload_n hx hb d_D_copy_36 rfl (lv_at hl 1 rfl) ?_
    refine lv_iload hx hb d_D_copy_37 (lv_at hl 0 rfl) ?_
    refine lv_if_ne (tgt := 46) hx hb d_D_copy_39 (by decide) (fun cx => (cx rfl).elim) (fun cx => ?_)
    refine lv_iconst (v := 1) hx hb d_D_copy_42 (by decide) ?_
    refine lv_goto (tgt := 76) hx hb d_D_copy_43 (by decide) ?_
    refine put_D hC hw hdL hfd 0 (by decide) k_fl_D_28 rfl rfl rfl (Nat.le_of_ble_eq_true rfl) d_D_copy_76 (fun H locs hw => ?_)
    obtain ⟨f1, hf1⟩ : ∃ F, F = va_up f d (.inr (3, [.int 1, .int (nI nm), .ref mst, .int (nI al), .ref ow, .ref ix, .ref bb, .ref cpy])) := ⟨_, rfl⟩
    have hw := pw_as (f' := f1) hw rfl hf1.symm
    obtain ⟨hg1, he1⟩ := mod_th hg 1
    rw [← hf1] at hg1 he1
    obtain ⟨⟨hdL1, htd1, hfd1⟩, ⟨hmL1, htm1, hfm1⟩, ⟨hoL1, hto1, hfo1⟩, ⟨hiL1, hti1, hfi1⟩, ⟨hbL1, htb1, hfb1⟩, ⟨hcL1, htc1, hfc1⟩, hk11, hk21, hk31⟩ := id hg1
    refine lv_aload_n hx hb d_D_copy_79 rfl (lv_at hl 1 rfl) ?_
    refine get_D hC hw hdL1 hfd1 0 (by decide) k_fl_D_28 rfl d_D_copy_80 ?_
    refine lv_if_le (tgt := 87) hx hb d_D_copy_83 (by decide) (fun cy => ((by decide : ¬ (1 : Int32) ≤ 0) cy).elim) (fun cy => ?_)
    refine W.widen (k := 5) (n := 5120) (by omega) (by omega) ?_
    exact pg_vret hC.1 hw (⟨1, tg, he1, Or.inl ⟨rfl, fun h => hno h.1, ⟨mst, ow, ix, bb, cpy, gb, hm9, ho9, hi9, hc9, hg1⟩⟩⟩) d_D_copy_86
set_option maxHeartbeats 4000000 in
set_option maxRecDepth 100000 in
theorem lp_dload {p : Program} {l : Launch} {e : Env} {R : Room} {s : State} {m : MethodId} {args : Array Value} {below : List Frame} {meth : Method} {c : Code} {Q : State → Prop} {A : Nat → Prop} {D : va_G} {kc : Nat → ClassId} {c0 : Cond} {ret : Option FieldType} {L : List Nat} {f : Nat → va_E} {d mst ow ix bb cpy : Nat} {gb : Nat → Option Nat} {hm9 ho9 hi9 hc9 : Nat → Int32} {tg : Nat → Nat × Nat} {nm : Nat} {mo : Nat → Int32} {om : Nat → Nat} {al : Nat} {bs : Nat → Nat → Nat} (hg : modG kc L f tg d mst ow ix bb cpy gb hm9 ho9 hi9 hc9 0 nm mo om al bs) (hs : stOK nm mo om al bs) {cells slots : Nat} (hcs : cells ≤ R.cells ∧ slots ≤ R.slots) (k : Nat) (hk : k < nm) (P0 nb : Nat) (op : Int32) (hP : P0 + nb ≤ 65536 * cnt om al k) (hnb : nb ≤ 8) (hC : Kx p m c b_D_load 13 s args c0 R_D meth ret D kc A) (hRf : 2 ≤ R.frames) (hRl : 50 ≤ R.locals)
    (kont : ∀ (H : Heap) (locs : List Loc) (ls : Array Slot), pw D Cls A s.heap H locs L f → lv_has ls 13 [(8, .long (lN (leN (bs k) P0 nb))), (2, .int op), (7, .int (nI nb))] → W p l e R s m args below meth c H locs cells slots Q (F0 m 106 ls [])) :
    ∀ (n : Nat) (i : Nat) (H : Heap) (locs : List Loc) (ls : Array Slot), i ≤ nb → nb + 1 ≤ i + n → pw D Cls A s.heap H locs L f → lv_has ls 13 [(10, .int (nI i)), (8, .long (lN (leN (bs k) P0 i))), (0, .ref d), (1, .int (nI k)), (2, .int op), (5, .long (lN P0)), (7, .int (nI nb))] → W p l e R s m args below meth c H locs cells slots Q (F0 m 70 ls []) := by
  obtain ⟨⟨⟨hx, hb, hml, hown, hts⟩, hret9, hlocks⟩, hK, hE, hA⟩ := id hC
  intro n
  induction n with
  | zero => intro i H locs ls hi hin hw hl; exact absurd hin (by omega)
  | succ n ih =>
    intro i H locs ls hi hin hw hl
    obtain ⟨⟨hdL, htd, hfd⟩, ⟨hmL, htm, hfm⟩, ⟨hoL, hto, hfo⟩, ⟨hiL, hti, hfi⟩, ⟨hbL, htb, hfb⟩, ⟨hcL, htc, hfc⟩, hk1, hk2, hk3⟩ := id hg
    obtain ⟨hs1, hs2, hs3, hs4, hs5, hs6⟩ := id hs
    have hcl := cnt_le om k al
    refine lv_iload hx hb d_D_load_70 (lv_at hl 0 rfl) ?_
    refine lv_iload hx hb d_D_load_72 (lv_at hl 6 rfl) ?_
    refine lv_icmp_ge (tgt := 106) hx hb d_D_load_74 (by decide) (fun c1 => ?_) (fun c1 => ?_)
    · have e : i = nb := by
        rcases Nat.lt_or_ge i nb with q | q
        · exact absurd c1 (nI_ge q (by omega))
        · omega
      subst e
      exact kont H locs ls hw (lv_sub hl [1, 4, 6] rfl)
    · have hlt : i < nb := by
        rcases Nat.lt_or_ge i nb with q | q
        · exact q
        · exact absurd (nI_le q (by omega)) c1
      refine lv_lload hx hb d_D_load_77 (lv_at hl 1 rfl) ?_
      refine lv_aload_n hx hb d_D_load_79 rfl (lv_at hl 2 rfl) ?_
      refine lv_iload_n hx hb d_D_load_80 rfl (lv_at hl 3 rfl) ?_
      refine lv_lload hx hb d_D_load_81 (lv_at hl 5 rfl) ?_
      refine lv_iload hx hb d_D_load_83 (lv_at hl 0 rfl) ?_
      refine lv_i2l hx hb d_D_load_85 rfl ?_
      refine tp_l (v := lN i) (nI_toI64 _ (by omega)) ?_
      refine lv_ladd hx hb d_D_load_86 ?_
      refine tp_l (v := lN (P0 + i)) (lN_add _ _) ?_
      refine callVi (As := [.int (nI k), .long (lN (P0 + i))]) (n9 := 2) hC hw (c_D_get l D kc _ _ _ d mst ow ix bb cpy gb hm9 ho9 hi9 hc9 tg 0 nm mo om al bs hg hs k hk (P0 + i) (by omega)) k_co_D_get k_ml_D_80 k_im_D_get k_se_D_get k_in_D rfl rfl (by decide +kernel) rfl ⟨Nat.le_trans (Nat.le_of_ble_eq_true rfl) hRf, Nat.le_trans (Nat.le_of_ble_eq_true rfl) hRl⟩ hdL hfd rfl hl.1 rfl (Nat.le_of_ble_eq_true rfl) d_D_load_87 ⟨hcs.1, hcs.2⟩ (fun r9 u H locs hp hw => ?_)
      obtain ⟨rfl, rfl⟩ := hp
      refine lv_i2l hx hb d_D_load_90 rfl ?_
      refine lv_bipush (v := 8) hx hb d_D_load_91 (by decide) ?_
      refine lv_iload hx hb d_D_load_93 (lv_at hl 0 rfl) ?_
      refine lv_imul hx hb d_D_load_95 ?_
      refine lv_lshl hx hb d_D_load_96 rfl ?_
      refine lv_ladd hx hb d_D_load_97 ?_
      refine tp_l (v := lN (leN (bs k) P0 (i + 1))) (le_add (hs6 k) P0 (by omega)) ?_
      refine lv_lstore (lv' := [(8, .long (lN (leN (bs k) P0 (i + 1)))), (10, .int (nI i)), (0, .ref d), (1, .int (nI k)), (2, .int op), (5, .long (lN P0)), (7, .int (nI nb))]) hx hb d_D_load_98 hl (by decide) rfl (fun ls hl => ?_)
      refine lv_iinc (v := nI (i + 1)) (lv' := [(10, .int (nI (i + 1))), (8, .long (lN (leN (bs k) P0 (i + 1)))), (0, .ref d), (1, .int (nI k)), (2, .int op), (5, .long (lN P0)), (7, .int (nI nb))]) hx hb d_D_load_100 hl (k := 1) rfl (nI_1 i) (by decide) rfl (fun ls hl => ?_)
      refine lv_goto (tgt := 70) hx hb d_D_load_103 (by decide) ?_
      exact ih (i + 1) _ _ _ (by omega) (by omega) hw (lv_sub hl [0, 1, 2, 3, 4, 5, 6] rfl)
set_option maxHeartbeats 4000000 in
set_option maxRecDepth 100000 in
theorem c_D_load (l : Launch) (D : va_G) (kc : Nat → ClassId) (L : List Nat) (f : Nat → va_E) (sz : Nat) (d mst ow ix bb cpy : Nat) (gb : Nat → Option Nat) (hm9 ho9 hi9 hc9 : Nat → Int32) (tg : Nat → Nat × Nat) (th : Int32) (nm : Nat) (mo : Nat → Int32) (om : Nat → Nat) (al : Nat) (bs : Nat → Nat → Nat) (hg : modG kc L f tg d mst ow ix bb cpy gb hm9 ho9 hi9 hc9 th nm mo om al bs) (hs : stOK nm mo om al bs) (mm op ad of : Int32) : Met l y_D_load w_D_load ({ frames := 2, cells := 0, slots := 0, locals := 50 }) (PP D kc L f sz [.ref d, .int mm, .int op, .int ad, .int of]) (Ql D L f sz (fun r u => ∃ t9 tg', modP kc u.1 u.2 tg' d t9 nm mo om al bs ∧ Ext SD L f tg u tg' ∧ ((t9 = 1 ∧ ¬ ((∃ k, k < nm ∧ mm = nI k) ∧ ∃ kd, kd < 14 ∧ op = nI (40 + kd))) ∨ (t9 = 2 ∧ ∃ k, k < nm ∧ mm = nI k ∧ ∃ kd, kd < 14 ∧ op = nI (40 + kd) ∧ ¬ (uI ad + uI of + szL kd ≤ 65536 * cnt om al k)) ∨ (t9 = 0 ∧ ∃ k, k < nm ∧ mm = nI k ∧ ∃ kd, kd < 14 ∧ op = nI (40 + kd) ∧ uI ad + uI of + szL kd ≤ 65536 * cnt om al k ∧ r = loadV kd (lN (leN (bs k) (uI ad + uI of) (szL kd))))))) 0 0 (pA L f sz) := by
  refine kx_met (by decide) (Nat.le_of_ble_eq_true rfl) ?_
  intro p e s m below meth c hC hnm hw hsz ls hl
  subst hsz
  have hl : lv_has ls 13 [(0, .ref d), (1, .int mm), (2, .int op), (3, .int ad), (4, .int of)] := hl
  obtain ⟨⟨⟨hx, hb, hml, hown, hts⟩, hret9, hlocks⟩, hK, hE, hA⟩ := id hC
  obtain ⟨⟨hdL, htd, hfd⟩, ⟨hmL, htm, hfm⟩, ⟨hoL, hto, hfo⟩, ⟨hiL, hti, hfi⟩, ⟨hbL, htb, hfb⟩, ⟨hcL, htc, hfc⟩, hk1, hk2, hk3⟩ := id hg
  obtain ⟨hs1, hs2, hs3, hs4, hs5, hs6⟩ := id hs
  refine lv_iload_n hx hb d_D_load_0 rfl (lv_at hl 3 rfl) ?_
  refine lv_iload hx hb d_D_load_1 (lv_at hl 4 rfl) ?_
  refine callSl (As := [.int ad, .int of]) (n9 := 2) hC hw (c_D_place l D kc _ _ _ ad of) k_co_D_place k_ml_D_65 k_sm_D_place k_in_D rfl rfl (by decide +kernel) rfl ⟨Nat.le_of_ble_eq_true rfl, Nat.le_of_ble_eq_true rfl⟩ hl.1 rfl (Nat.le_of_ble_eq_true rfl) d_D_load_3 ⟨Nat.le_of_ble_eq_true rfl, Nat.le_of_ble_eq_true rfl⟩ (fun r9 u H locs hp hw => ?_)
  obtain ⟨rfl, rfl⟩ := hp
  have h33 : uI ad + uI of < 2 ^ 33 := by have := uI_lt ad; have := uI_lt of; omega
  refine lv_lstore (lv' := [(5, .long (lN (uI ad + uI of))), (0, .ref d), (1, .int mm), (2, .int op), (3, .int ad), (4, .int of)]) hx hb d_D_load_6 hl (by decide) rfl (fun ls hl => ?_)
  refine lv_iload_n hx hb d_D_load_8 rfl (lv_at hl 3 rfl) ?_
  refine callSi (As := [.int op]) (n9 := 1) hC hw (c_D_size l D kc _ _ _ op) k_co_D_size k_ml_D_69 k_sm_D_size k_in_D rfl rfl (by decide +kernel) rfl ⟨Nat.le_of_ble_eq_true rfl, Nat.le_of_ble_eq_true rfl⟩ hl.1 rfl (Nat.le_of_ble_eq_true rfl) d_D_load_9 ⟨Nat.le_of_ble_eq_true rfl, Nat.le_of_ble_eq_true rfl⟩ (fun r9 u H locs hp hw => ?_)
  obtain ⟨⟨z, rfl, hz1, hz2, hzL, hzS⟩, rfl⟩ := hp
  refine lv_istore (lv' := [(7, .int (nI z)), (5, .long (lN (uI ad + uI of))), (0, .ref d), (1, .int mm), (2, .int op), (3, .int ad), (4, .int of)]) hx hb d_D_load_12 hl (by decide) rfl (fun ls hl => ?_)
  refine lv_aload_n hx hb d_D_load_14 rfl (lv_at hl 2 rfl) ?_
  refine lv_aload_n hx hb d_D_load_15 rfl (lv_at hl 2 rfl) ?_
  refine lv_iload_n hx hb d_D_load_16 rfl (lv_at hl 3 rfl) ?_
  refine callVi (As := [.int mm]) (n9 := 1) hC hw (c_D_isMemory l D kc _ _ _ d mst ow ix bb cpy gb hm9 ho9 hi9 hc9 tg th nm mo om al bs hg hs mm) k_co_D_isMemory k_ml_D_51 k_im_D_isMemory k_se_D_isMemory k_in_D rfl rfl (by decide +kernel) rfl ⟨Nat.le_of_ble_eq_true rfl, Nat.le_of_ble_eq_true rfl⟩ hdL hfd rfl hl.1 rfl (Nat.le_of_ble_eq_true rfl) d_D_load_17 ⟨Nat.le_of_ble_eq_true rfl, Nat.le_of_ble_eq_true rfl⟩ (fun r9 u H locs hp hw => ?_)
  obtain ⟨hp, rfl⟩ := hp
  rcases hp with ⟨rfl, k, hkn, rfl⟩ | ⟨rfl, hno⟩
  · refine lv_if_eq (tgt := 31) hx hb d_D_load_20 (by decide) (fun c0 => ((by decide : ¬ (1 : Int32) = 0) c0).elim) (fun c0 => ?_)
    have hcl := cnt_le om k al
    refine lv_iload_n hx hb d_D_load_23 rfl (lv_at hl 4 rfl) ?_
    refine lv_iconst (v := 0) hx hb d_D_load_24 (by decide) ?_
    refine callSi (As := [.int op, .int 0]) (n9 := 2) hC hw (c_D_isWhole_ld l D kc _ _ _ op) k_co_D_isWhole k_ml_D_72 k_sm_D_isWhole k_in_D rfl rfl (by decide +kernel) rfl ⟨Nat.le_of_ble_eq_true rfl, Nat.le_of_ble_eq_true rfl⟩ hl.1 rfl (Nat.le_of_ble_eq_true rfl) d_D_load_25 ⟨Nat.le_of_ble_eq_true rfl, Nat.le_of_ble_eq_true rfl⟩ (fun r9 u H locs hp hw => ?_)
    obtain ⟨hp, rfl⟩ := hp
    rcases hp with ⟨rfl, kd, hkd, rfl⟩ | ⟨rfl, hnk⟩
    · refine lv_if_ne (tgt := 35) hx hb d_D_load_28 (by decide) (fun c1 => ?_) (fun c1 => ((by decide : ¬ (1 : Int32) = 0) c1).elim)
      have hzz : z = szL kd := hzL kd hkd rfl
      subst hzz
      refine lv_aload_n hx hb d_D_load_35 rfl (lv_at hl 2 rfl) ?_
      refine lv_iload_n hx hb d_D_load_36 rfl (lv_at hl 3 rfl) ?_
      refine lv_lload hx hb d_D_load_37 (lv_at hl 1 rfl) ?_
      refine lv_iload hx hb d_D_load_39 (lv_at hl 0 rfl) ?_
      refine callVi (As := [.int (nI k), .long (lN (uI ad + uI of)), .int (nI (szL kd))]) (n9 := 3) hC hw (c_D_isThere l D kc _ _ _ d mst ow ix bb cpy gb hm9 ho9 hi9 hc9 tg th nm mo om al bs hg hs k hkn (lN (uI ad + uI of)) (szL kd) (by omega)) k_co_D_isThere k_ml_D_76 k_im_D_isThere k_se_D_isThere k_in_D rfl rfl (by decide +kernel) rfl ⟨Nat.le_of_ble_eq_true rfl, Nat.le_of_ble_eq_true rfl⟩ hdL hfd rfl hl.1 rfl (Nat.le_of_ble_eq_true rfl) d_D_load_41 ⟨Nat.le_of_ble_eq_true rfl, Nat.le_of_ble_eq_true rfl⟩ (fun r9 u H locs hp hw => ?_)
      obtain ⟨hp, rfl⟩ := hp
      rw [thereP_pl ⟨by omega, by omega⟩ (by omega) (by omega)] at hp
      rcases hp with ⟨rfl, hth⟩ | ⟨rfl, hth⟩
      · refine lv_if_ne (tgt := 51) hx hb d_D_load_44 (by decide) (fun c3 => ?_) (fun c3 => ((by decide : ¬ (1 : Int32) = 0) c3).elim)
        refine lv_iconst (v := 0) hx hb d_D_load_51 (by decide) ?_
        refine put_D hC hw hdL hfd 0 (by decide) k_fl_D_28 rfl rfl rfl (Nat.le_of_ble_eq_true rfl) d_D_load_52 (fun H locs hw => ?_)
        obtain ⟨f1, hf1⟩ : ∃ F, F = va_up f d (.inr (3, [.int 0, .int (nI nm), .ref mst, .int (nI al), .ref ow, .ref ix, .ref bb, .ref cpy])) := ⟨_, rfl⟩
        have hw := pw_as (f' := f1) hw rfl hf1.symm
        obtain ⟨hg1, he1⟩ := mod_th hg 0
        rw [← hf1] at hg1 he1
        obtain ⟨⟨hdL1, htd1, hfd1⟩, ⟨hmL1, htm1, hfm1⟩, ⟨hoL1, hto1, hfo1⟩, ⟨hiL1, hti1, hfi1⟩, ⟨hbL1, htb1, hfb1⟩, ⟨hcL1, htc1, hfc1⟩, hk11, hk21, hk31⟩ := id hg1
        refine lv_aload_n hx hb d_D_load_55 rfl (lv_at hl 2 rfl) ?_
        refine get_D hC hw hdL1 hfd1 0 (by decide) k_fl_D_28 rfl d_D_load_56 ?_
        refine lv_if_le (tgt := 64) hx hb d_D_load_59 (by decide) (fun cy => ?_) (fun cy => (cy (by decide)).elim)
        refine lv_lconst (v := 0) hx hb d_D_load_64 (by decide) ?_
        refine lv_lstore (lv' := [(8, .long 0), (7, .int (nI (szL kd))), (5, .long (lN (uI ad + uI of))), (0, .ref d), (1, .int (nI k)), (2, .int (nI (40 + kd))), (3, .int ad), (4, .int of)]) hx hb d_D_load_65 hl (by decide) rfl (fun ls hl => ?_)
        refine lv_iconst (v := 0) hx hb d_D_load_67 (by decide) ?_
        refine lv_istore (lv' := [(10, .int 0), (8, .long 0), (7, .int (nI (szL kd))), (5, .long (lN (uI ad + uI of))), (0, .ref d), (1, .int (nI k)), (2, .int (nI (40 + kd))), (3, .int ad), (4, .int of)]) hx hb d_D_load_68 hl (by decide) rfl (fun ls hl => ?_)
        refine lp_dload hg1 hs ⟨Nat.zero_le _, Nat.zero_le _⟩ k hkn (uI ad + uI of) (szL kd) (nI (40 + kd)) hth hz2 hC (Nat.le_of_ble_eq_true rfl) (Nat.le_of_ble_eq_true rfl) (fun H locs ls hw hl => ?_) (szL kd + 1) 0 _ _ _ (Nat.zero_le _) (by omega) hw (lv_sub hl [0, 1, 4, 5, 6, 3, 2] rfl)
        obtain ⟨V, hVe⟩ : ∃ V, V = leN (bs k) (uI ad + uI of) (szL kd) := ⟨_, rfl⟩
        have hV : V < 2 ^ (8 * szL kd) := by rw [hVe]; exact leN_lt (hs6 k) _ _
        rw [← hVe] at hl
        obtain ⟨hsg, hsz, hwd⟩ := kd_sg kd hkd
        by_cases hs1b : tLS kd = 1
        · obtain ⟨hd4, hev⟩ := hsg.mp hs1b
          have hsz9 := hsz hs1b
          refine lv_iload_n hx hb d_D_load_106 rfl (lv_at hl 1 rfl) ?_
          refine lv_bipush (v := 44) hx hb d_D_load_107 (by decide) ?_
          refine lv_icmp_lt (tgt := 122) hx hb d_D_load_109 (by decide) (fun f1 => (nI_nlt (a := 40 + kd) (b := 44) (by omega) (by omega) f1).elim) (fun f1 => ?_)
          refine lv_iload_n hx hb d_D_load_112 rfl (lv_at hl 1 rfl) ?_
          refine lv_iconst (v := 2) hx hb d_D_load_113 (by decide) ?_
          refine lv_irem hx hb d_D_load_114 (by decide) ?_
          refine tp_i (v := nI ((40 + kd) % 2)) (pk_rem (d := 2) (by omega) (by decide) (by decide)) ?_
          refine tp_i (v := nI 0) (by rw [hev]) ?_
          refine lv_if_ne (tgt := 122) hx hb d_D_load_115 (by decide) (fun f2 => (f2 rfl).elim) (fun f2 => ?_)
          refine lv_iconst (v := 1) hx hb d_D_load_118 (by decide) ?_
          refine lv_goto (tgt := 123) hx hb d_D_load_119 (by decide) ?_
          refine lv_istore (lv' := [(10, .int 1), (8, .long (lN V)), (2, .int (nI (40 + kd))), (7, .int (nI (szL kd)))]) hx hb d_D_load_123 hl (by decide) rfl (fun ls hl => ?_)
          refine lv_iload hx hb d_D_load_125 (lv_at hl 0 rfl) ?_
          refine lv_if_eq (tgt := 151) hx hb d_D_load_127 (by decide) (fun f3 => ((by decide : ¬ (1 : Int32) = 0) f3).elim) (fun f3 => ?_)
          refine lv_lload hx hb d_D_load_130 (lv_at hl 1 rfl) ?_
          refine lv_bipush (v := 8) hx hb d_D_load_132 (by decide) ?_
          refine lv_iload hx hb d_D_load_134 (lv_at hl 3 rfl) ?_
          refine lv_imul hx hb d_D_load_136 ?_
          refine lv_iconst (v := 1) hx hb d_D_load_137 (by decide) ?_
          refine lv_isub hx hb d_D_load_138 ?_
          refine lv_lshr hx hb d_D_load_139 rfl ?_
          refine lv_lconst (v := 1) hx hb d_D_load_140 (by decide) ?_
          refine lv_land hx hb d_D_load_141 ?_
          refine tp_l (v := if V < 2 ^ (8 * szL kd - 1) then lN 0 else lN 1) (top_bit hsz9 hV) ?_
          by_cases hbit : V < 2 ^ (8 * szL kd - 1)
          · refine tp_l (v := lN 0) (if_pos hbit) ?_
            refine lv_lconst (v := 1) hx hb d_D_load_142 (by decide) ?_
            refine W.lcmp hx hb d_D_load_143 ?_
            refine lv_if_ne (tgt := 151) hx hb d_D_load_144 (by decide) (fun f4 => ?_) (fun f4 => ((by decide : ¬ (lg_cmp (lN 0) 1 = 0)) f4).elim)
            refine lv_iconst (v := 0) hx hb d_D_load_151 (by decide) ?_
            refine lv_istore (lv' := [(11, .int 0), (10, .int 1), (8, .long (lN V)), (2, .int (nI (40 + kd))), (7, .int (nI (szL kd)))]) hx hb d_D_load_152 hl (by decide) rfl (fun ls hl => ?_)
            refine lv_iload hx hb d_D_load_154 (lv_at hl 0 rfl) ?_
            refine lv_if_eq (tgt := 172) hx hb d_D_load_156 (by decide) (fun f5 => ?_) (fun f5 => (f5 rfl).elim)
            refine lv_lload hx hb d_D_load_172 (lv_at hl 2 rfl) ?_
            refine lv_lstore (lv' := [(8, .long (lN V)), (11, .int 0), (10, .int 1), (2, .int (nI (40 + kd))), (7, .int (nI (szL kd)))]) hx hb d_D_load_174 hl (by decide) rfl (fun ls hl => ?_)
            by_cases hw4 : tLT kd = 4
            · obtain ⟨hd1, hd3, hd8⟩ := hwd.mp hw4
              refine lv_iload_n hx hb d_D_load_176 rfl (lv_at hl 3 rfl) ?_
              refine lv_bipush (v := 41) hx hb d_D_load_177 (by decide) ?_
              refine lv_icmp_eq (tgt := 194) hx hb d_D_load_179 (by decide) (fun e1 => (hd1 (by have := nI_inj (a := 40 + kd) (b := 41) (by omega) (by decide) e1; omega)).elim) (fun e1 => ?_)
              refine lv_iload_n hx hb d_D_load_182 rfl (lv_at hl 3 rfl) ?_
              refine lv_bipush (v := 43) hx hb d_D_load_183 (by decide) ?_
              refine lv_icmp_eq (tgt := 194) hx hb d_D_load_185 (by decide) (fun e2 => (hd3 (by have := nI_inj (a := 40 + kd) (b := 43) (by omega) (by decide) e2; omega)).elim) (fun e2 => ?_)
              refine lv_iload_n hx hb d_D_load_188 rfl (lv_at hl 3 rfl) ?_
              refine lv_bipush (v := 48) hx hb d_D_load_189 (by decide) ?_
              refine lv_icmp_lt (tgt := 198) hx hb d_D_load_191 (by decide) (fun e3 => ?_) (fun e3 => (e3 (nI_lt (a := 40 + kd) (b := 48) (by omega) (by decide))).elim)
              refine lv_iconst (v := 0) hx hb d_D_load_198 (by decide) ?_
              refine lv_istore (lv' := [(12, .int 0), (8, .long (lN V)), (11, .int 0), (10, .int 1), (2, .int (nI (40 + kd))), (7, .int (nI (szL kd)))]) hx hb d_D_load_199 hl (by decide) rfl (fun ls hl => ?_)
              refine lv_iload hx hb d_D_load_201 (lv_at hl 0 rfl) ?_
              refine lv_if_eq (tgt := 211) hx hb d_D_load_203 (by decide) (fun e4 => ?_) (fun e4 => (e4 rfl).elim)
              refine lv_lload hx hb d_D_load_211 (lv_at hl 1 rfl) ?_
              refine lv_ldc2 (v := 4294967295) hx hb hown (hts _ (gg_mem k_cn_D_63)) d_D_load_213 ?_
              refine lv_land hx hb d_D_load_216 ?_
              exact pg_lret hC.1 hw (⟨0, tg, ⟨mst, ow, ix, bb, cpy, gb, hm9, ho9, hi9, hc9, hg1⟩, he1, Or.inr (Or.inr ⟨rfl, k, hkn, rfl, kd, hkd, rfl, hth, by rw [← hVe]; unfold loadV; rw [if_pos hw4, if_pos hs1b, sg_all hsz9 hV, if_pos hbit]⟩)⟩) d_D_load_217
            · refine lv_iload_n hx hb d_D_load_176 rfl (lv_at hl 3 rfl) ?_
              refine lv_bipush (v := 41) hx hb d_D_load_177 (by decide) ?_
              refine lv_icmp_eq (tgt := 194) hx hb d_D_load_179 (by decide) (fun e1 => ?_) (fun e1 => ?_)
              · refine lv_iconst (v := 1) hx hb d_D_load_194 (by decide) ?_
                refine lv_goto (tgt := 199) hx hb d_D_load_195 (by decide) ?_
                refine lv_istore (lv' := [(12, .int 1), (8, .long (lN V)), (11, .int 0), (10, .int 1), (2, .int (nI (40 + kd))), (7, .int (nI (szL kd)))]) hx hb d_D_load_199 hl (by decide) rfl (fun ls hl => ?_)
                refine lv_iload hx hb d_D_load_201 (lv_at hl 0 rfl) ?_
                refine lv_if_eq (tgt := 211) hx hb d_D_load_203 (by decide) (fun e4 => ((by decide : ¬ (1 : Int32) = 0) e4).elim) (fun e4 => ?_)
                refine lv_lload hx hb d_D_load_206 (lv_at hl 1 rfl) ?_
                refine lv_goto (tgt := 217) hx hb d_D_load_208 (by decide) ?_
                exact pg_lret hC.1 hw (⟨0, tg, ⟨mst, ow, ix, bb, cpy, gb, hm9, ho9, hi9, hc9, hg1⟩, he1, Or.inr (Or.inr ⟨rfl, k, hkn, rfl, kd, hkd, rfl, hth, by rw [← hVe]; unfold loadV; rw [if_neg hw4, if_pos hs1b, sg_all hsz9 hV, if_pos hbit]⟩)⟩) d_D_load_217
              · refine lv_iload_n hx hb d_D_load_182 rfl (lv_at hl 3 rfl) ?_
                refine lv_bipush (v := 43) hx hb d_D_load_183 (by decide) ?_
                refine lv_icmp_eq (tgt := 194) hx hb d_D_load_185 (by decide) (fun e2 => ?_) (fun e2 => ?_)
                · refine lv_iconst (v := 1) hx hb d_D_load_194 (by decide) ?_
                  refine lv_goto (tgt := 199) hx hb d_D_load_195 (by decide) ?_
                  refine lv_istore (lv' := [(12, .int 1), (8, .long (lN V)), (11, .int 0), (10, .int 1), (2, .int (nI (40 + kd))), (7, .int (nI (szL kd)))]) hx hb d_D_load_199 hl (by decide) rfl (fun ls hl => ?_)
                  refine lv_iload hx hb d_D_load_201 (lv_at hl 0 rfl) ?_
                  refine lv_if_eq (tgt := 211) hx hb d_D_load_203 (by decide) (fun e4 => ((by decide : ¬ (1 : Int32) = 0) e4).elim) (fun e4 => ?_)
                  refine lv_lload hx hb d_D_load_206 (lv_at hl 1 rfl) ?_
                  refine lv_goto (tgt := 217) hx hb d_D_load_208 (by decide) ?_
                  exact pg_lret hC.1 hw (⟨0, tg, ⟨mst, ow, ix, bb, cpy, gb, hm9, ho9, hi9, hc9, hg1⟩, he1, Or.inr (Or.inr ⟨rfl, k, hkn, rfl, kd, hkd, rfl, hth, by rw [← hVe]; unfold loadV; rw [if_neg hw4, if_pos hs1b, sg_all hsz9 hV, if_pos hbit]⟩)⟩) d_D_load_217
                · refine lv_iload_n hx hb d_D_load_188 rfl (lv_at hl 3 rfl) ?_
                  refine lv_bipush (v := 48) hx hb d_D_load_189 (by decide) ?_
                  refine lv_icmp_lt (tgt := 198) hx hb d_D_load_191 (by decide) (fun e3 => (hw4 (hwd.mpr ⟨fun z => e1 (by rw [z]; rfl), fun z => e2 (by rw [z]; rfl), by have h9 : 40 + kd < 48 := (nI_ltI (a := 40 + kd) (b := 48) (by omega) (by decide)).mp e3; omega⟩)).elim) (fun e3 => ?_)
                  refine lv_iconst (v := 1) hx hb d_D_load_194 (by decide) ?_
                  refine lv_goto (tgt := 199) hx hb d_D_load_195 (by decide) ?_
                  refine lv_istore (lv' := [(12, .int 1), (8, .long (lN V)), (11, .int 0), (10, .int 1), (2, .int (nI (40 + kd))), (7, .int (nI (szL kd)))]) hx hb d_D_load_199 hl (by decide) rfl (fun ls hl => ?_)
                  refine lv_iload hx hb d_D_load_201 (lv_at hl 0 rfl) ?_
                  refine lv_if_eq (tgt := 211) hx hb d_D_load_203 (by decide) (fun e4 => ((by decide : ¬ (1 : Int32) = 0) e4).elim) (fun e4 => ?_)
                  refine lv_lload hx hb d_D_load_206 (lv_at hl 1 rfl) ?_
                  refine lv_goto (tgt := 217) hx hb d_D_load_208 (by decide) ?_
                  exact pg_lret hC.1 hw (⟨0, tg, ⟨mst, ow, ix, bb, cpy, gb, hm9, ho9, hi9, hc9, hg1⟩, he1, Or.inr (Or.inr ⟨rfl, k, hkn, rfl, kd, hkd, rfl, hth, by rw [← hVe]; unfold loadV; rw [if_neg hw4, if_pos hs1b, sg_all hsz9 hV, if_pos hbit]⟩)⟩) d_D_load_217
          · refine tp_l (v := lN 1) (if_neg hbit) ?_
            refine lv_lconst (v := 1) hx hb d_D_load_142 (by decide) ?_
            refine W.lcmp hx hb d_D_load_143 ?_
            refine lv_if_ne (tgt := 151) hx hb d_D_load_144 (by decide) (fun f4 => (f4 (by decide)).elim) (fun f4 => ?_)
            refine lv_iconst (v := 1) hx hb d_D_load_147 (by decide) ?_
            refine lv_goto (tgt := 152) hx hb d_D_load_148 (by decide) ?_
            refine lv_istore (lv' := [(11, .int 1), (10, .int 1), (8, .long (lN V)), (2, .int (nI (40 + kd))), (7, .int (nI (szL kd)))]) hx hb d_D_load_152 hl (by decide) rfl (fun ls hl => ?_)
            refine lv_iload hx hb d_D_load_154 (lv_at hl 0 rfl) ?_
            refine lv_if_eq (tgt := 172) hx hb d_D_load_156 (by decide) (fun f5 => ((by decide : ¬ (1 : Int32) = 0) f5).elim) (fun f5 => ?_)
            refine lv_lload hx hb d_D_load_159 (lv_at hl 2 rfl) ?_
            refine lv_lconst (v := 1) hx hb d_D_load_161 (by decide) ?_
            refine lv_bipush (v := 8) hx hb d_D_load_162 (by decide) ?_
            refine lv_iload hx hb d_D_load_164 (lv_at hl 4 rfl) ?_
            refine lv_imul hx hb d_D_load_166 ?_
            refine lv_lshl hx hb d_D_load_167 rfl ?_
            refine lv_lsub hx hb d_D_load_168 ?_
            refine lv_goto (tgt := 174) hx hb d_D_load_169 (by decide) ?_
            refine lv_lstore (lv' := [(8, .long ((lN V) - (1 <<< ((8 * (nI (szL kd))).toInt64 &&& 63)))), (11, .int 1), (10, .int 1), (2, .int (nI (40 + kd))), (7, .int (nI (szL kd)))]) hx hb d_D_load_174 hl (by decide) rfl (fun ls hl => ?_)
            by_cases hw4 : tLT kd = 4
            · obtain ⟨hd1, hd3, hd8⟩ := hwd.mp hw4
              refine lv_iload_n hx hb d_D_load_176 rfl (lv_at hl 3 rfl) ?_
              refine lv_bipush (v := 41) hx hb d_D_load_177 (by decide) ?_
              refine lv_icmp_eq (tgt := 194) hx hb d_D_load_179 (by decide) (fun e1 => (hd1 (by have := nI_inj (a := 40 + kd) (b := 41) (by omega) (by decide) e1; omega)).elim) (fun e1 => ?_)
              refine lv_iload_n hx hb d_D_load_182 rfl (lv_at hl 3 rfl) ?_
              refine lv_bipush (v := 43) hx hb d_D_load_183 (by decide) ?_
              refine lv_icmp_eq (tgt := 194) hx hb d_D_load_185 (by decide) (fun e2 => (hd3 (by have := nI_inj (a := 40 + kd) (b := 43) (by omega) (by decide) e2; omega)).elim) (fun e2 => ?_)
              refine lv_iload_n hx hb d_D_load_188 rfl (lv_at hl 3 rfl) ?_
              refine lv_bipush (v := 48) hx hb d_D_load_189 (by decide) ?_
              refine lv_icmp_lt (tgt := 198) hx hb d_D_load_191 (by decide) (fun e3 => ?_) (fun e3 => (e3 (nI_lt (a := 40 + kd) (b := 48) (by omega) (by decide))).elim)
              refine lv_iconst (v := 0) hx hb d_D_load_198 (by decide) ?_
              refine lv_istore (lv' := [(12, .int 0), (8, .long ((lN V) - (1 <<< ((8 * (nI (szL kd))).toInt64 &&& 63)))), (11, .int 1), (10, .int 1), (2, .int (nI (40 + kd))), (7, .int (nI (szL kd)))]) hx hb d_D_load_199 hl (by decide) rfl (fun ls hl => ?_)
              refine lv_iload hx hb d_D_load_201 (lv_at hl 0 rfl) ?_
              refine lv_if_eq (tgt := 211) hx hb d_D_load_203 (by decide) (fun e4 => ?_) (fun e4 => (e4 rfl).elim)
              refine lv_lload hx hb d_D_load_211 (lv_at hl 1 rfl) ?_
              refine lv_ldc2 (v := 4294967295) hx hb hown (hts _ (gg_mem k_cn_D_63)) d_D_load_213 ?_
              refine lv_land hx hb d_D_load_216 ?_
              exact pg_lret hC.1 hw (⟨0, tg, ⟨mst, ow, ix, bb, cpy, gb, hm9, ho9, hi9, hc9, hg1⟩, he1, Or.inr (Or.inr ⟨rfl, k, hkn, rfl, kd, hkd, rfl, hth, by rw [← hVe]; unfold loadV; rw [if_pos hw4, if_pos hs1b, sg_all hsz9 hV, if_neg hbit]⟩)⟩) d_D_load_217
            · refine lv_iload_n hx hb d_D_load_176 rfl (lv_at hl 3 rfl) ?_
              refine lv_bipush (v := 41) hx hb d_D_load_177 (by decide) ?_
              refine lv_icmp_eq (tgt := 194) hx hb d_D_load_179 (by decide) (fun e1 => ?_) (fun e1 => ?_)
              · refine lv_iconst (v := 1) hx hb d_D_load_194 (by decide) ?_
                refine lv_goto (tgt := 199) hx hb d_D_load_195 (by decide) ?_
                refine lv_istore (lv' := [(12, .int 1), (8, .long ((lN V) - (1 <<< ((8 * (nI (szL kd))).toInt64 &&& 63)))), (11, .int 1), (10, .int 1), (2, .int (nI (40 + kd))), (7, .int (nI (szL kd)))]) hx hb d_D_load_199 hl (by decide) rfl (fun ls hl => ?_)
                refine lv_iload hx hb d_D_load_201 (lv_at hl 0 rfl) ?_
                refine lv_if_eq (tgt := 211) hx hb d_D_load_203 (by decide) (fun e4 => ((by decide : ¬ (1 : Int32) = 0) e4).elim) (fun e4 => ?_)
                refine lv_lload hx hb d_D_load_206 (lv_at hl 1 rfl) ?_
                refine lv_goto (tgt := 217) hx hb d_D_load_208 (by decide) ?_
                exact pg_lret hC.1 hw (⟨0, tg, ⟨mst, ow, ix, bb, cpy, gb, hm9, ho9, hi9, hc9, hg1⟩, he1, Or.inr (Or.inr ⟨rfl, k, hkn, rfl, kd, hkd, rfl, hth, by rw [← hVe]; unfold loadV; rw [if_neg hw4, if_pos hs1b, sg_all hsz9 hV, if_neg hbit]⟩)⟩) d_D_load_217
              · refine lv_iload_n hx hb d_D_load_182 rfl (lv_at hl 3 rfl) ?_
                refine lv_bipush (v := 43) hx hb d_D_load_183 (by decide) ?_
                refine lv_icmp_eq (tgt := 194) hx hb d_D_load_185 (by decide) (fun e2 => ?_) (fun e2 => ?_)
                · refine lv_iconst (v := 1) hx hb d_D_load_194 (by decide) ?_
                  refine lv_goto (tgt := 199) hx hb d_D_load_195 (by decide) ?_
                  refine lv_istore (lv' := [(12, .int 1), (8, .long ((lN V) - (1 <<< ((8 * (nI (szL kd))).toInt64 &&& 63)))), (11, .int 1), (10, .int 1), (2, .int (nI (40 + kd))), (7, .int (nI (szL kd)))]) hx hb d_D_load_199 hl (by decide) rfl (fun ls hl => ?_)
                  refine lv_iload hx hb d_D_load_201 (lv_at hl 0 rfl) ?_
                  refine lv_if_eq (tgt := 211) hx hb d_D_load_203 (by decide) (fun e4 => ((by decide : ¬ (1 : Int32) = 0) e4).elim) (fun e4 => ?_)
                  refine lv_lload hx hb d_D_load_206 (lv_at hl 1 rfl) ?_
                  refine lv_goto (tgt := 217) hx hb d_D_load_208 (by decide) ?_
                  exact pg_lret hC.1 hw (⟨0, tg, ⟨mst, ow, ix, bb, cpy, gb, hm9, ho9, hi9, hc9, hg1⟩, he1, Or.inr (Or.inr ⟨rfl, k, hkn, rfl, kd, hkd, rfl, hth, by rw [← hVe]; unfold loadV; rw [if_neg hw4, if_pos hs1b, sg_all hsz9 hV, if_neg hbit]⟩)⟩) d_D_load_217
                · refine lv_iload_n hx hb d_D_load_188 rfl (lv_at hl 3 rfl) ?_
                  refine lv_bipush (v := 48) hx hb d_D_load_189 (by decide) ?_
                  refine lv_icmp_lt (tgt := 198) hx hb d_D_load_191 (by decide) (fun e3 => (hw4 (hwd.mpr ⟨fun z => e1 (by rw [z]; rfl), fun z => e2 (by rw [z]; rfl), by have h9 : 40 + kd < 48 := (nI_ltI (a := 40 + kd) (b := 48) (by omega) (by decide)).mp e3; omega⟩)).elim) (fun e3 => ?_)
                  refine lv_iconst (v := 1) hx hb d_D_load_194 (by decide) ?_
                  refine lv_goto (tgt := 199) hx hb d_D_load_195 (by decide) ?_
                  refine lv_istore (lv' := [(12, .int 1), (8, .long ((lN V) - (1 <<< ((8 * (nI (szL kd))).toInt64 &&& 63)))), (11, .int 1), (10, .int 1), (2, .int (nI (40 + kd))), (7, .int (nI (szL kd)))]) hx hb d_D_load_199 hl (by decide) rfl (fun ls hl => ?_)
                  refine lv_iload hx hb d_D_load_201 (lv_at hl 0 rfl) ?_
                  refine lv_if_eq (tgt := 211) hx hb d_D_load_203 (by decide) (fun e4 => ((by decide : ¬ (1 : Int32) = 0) e4).elim) (fun e4 => ?_)
                  refine lv_lload hx hb d_D_load_206 (lv_at hl 1 rfl) ?_
                  refine lv_goto (tgt := 217) hx hb d_D_load_208 (by decide) ?_
                  exact pg_lret hC.1 hw (⟨0, tg, ⟨mst, ow, ix, bb, cpy, gb, hm9, ho9, hi9, hc9, hg1⟩, he1, Or.inr (Or.inr ⟨rfl, k, hkn, rfl, kd, hkd, rfl, hth, by rw [← hVe]; unfold loadV; rw [if_neg hw4, if_pos hs1b, sg_all hsz9 hV, if_neg hbit]⟩)⟩) d_D_load_217
        · refine lv_iload_n hx hb d_D_load_106 rfl (lv_at hl 1 rfl) ?_
          refine lv_bipush (v := 44) hx hb d_D_load_107 (by decide) ?_
          refine lv_icmp_lt (tgt := 122) hx hb d_D_load_109 (by decide) (fun f1 => ?_) (fun f1 => ?_)
          · refine lv_iconst (v := 0) hx hb d_D_load_122 (by decide) ?_
            refine lv_istore (lv' := [(10, .int 0), (8, .long (lN V)), (2, .int (nI (40 + kd))), (7, .int (nI (szL kd)))]) hx hb d_D_load_123 hl (by decide) rfl (fun ls hl => ?_)
            refine lv_iload hx hb d_D_load_125 (lv_at hl 0 rfl) ?_
            refine lv_if_eq (tgt := 151) hx hb d_D_load_127 (by decide) (fun f3 => ?_) (fun f3 => (f3 rfl).elim)
            refine lv_iconst (v := 0) hx hb d_D_load_151 (by decide) ?_
            refine lv_istore (lv' := [(11, .int 0), (10, .int 0), (8, .long (lN V)), (2, .int (nI (40 + kd))), (7, .int (nI (szL kd)))]) hx hb d_D_load_152 hl (by decide) rfl (fun ls hl => ?_)
            refine lv_iload hx hb d_D_load_154 (lv_at hl 0 rfl) ?_
            refine lv_if_eq (tgt := 172) hx hb d_D_load_156 (by decide) (fun f5 => ?_) (fun f5 => (f5 rfl).elim)
            refine lv_lload hx hb d_D_load_172 (lv_at hl 2 rfl) ?_
            refine lv_lstore (lv' := [(8, .long (lN V)), (11, .int 0), (10, .int 0), (2, .int (nI (40 + kd))), (7, .int (nI (szL kd)))]) hx hb d_D_load_174 hl (by decide) rfl (fun ls hl => ?_)
            by_cases hw4 : tLT kd = 4
            · obtain ⟨hd1, hd3, hd8⟩ := hwd.mp hw4
              refine lv_iload_n hx hb d_D_load_176 rfl (lv_at hl 3 rfl) ?_
              refine lv_bipush (v := 41) hx hb d_D_load_177 (by decide) ?_
              refine lv_icmp_eq (tgt := 194) hx hb d_D_load_179 (by decide) (fun e1 => (hd1 (by have := nI_inj (a := 40 + kd) (b := 41) (by omega) (by decide) e1; omega)).elim) (fun e1 => ?_)
              refine lv_iload_n hx hb d_D_load_182 rfl (lv_at hl 3 rfl) ?_
              refine lv_bipush (v := 43) hx hb d_D_load_183 (by decide) ?_
              refine lv_icmp_eq (tgt := 194) hx hb d_D_load_185 (by decide) (fun e2 => (hd3 (by have := nI_inj (a := 40 + kd) (b := 43) (by omega) (by decide) e2; omega)).elim) (fun e2 => ?_)
              refine lv_iload_n hx hb d_D_load_188 rfl (lv_at hl 3 rfl) ?_
              refine lv_bipush (v := 48) hx hb d_D_load_189 (by decide) ?_
              refine lv_icmp_lt (tgt := 198) hx hb d_D_load_191 (by decide) (fun e3 => ?_) (fun e3 => (e3 (nI_lt (a := 40 + kd) (b := 48) (by omega) (by decide))).elim)
              refine lv_iconst (v := 0) hx hb d_D_load_198 (by decide) ?_
              refine lv_istore (lv' := [(12, .int 0), (8, .long (lN V)), (11, .int 0), (10, .int 0), (2, .int (nI (40 + kd))), (7, .int (nI (szL kd)))]) hx hb d_D_load_199 hl (by decide) rfl (fun ls hl => ?_)
              refine lv_iload hx hb d_D_load_201 (lv_at hl 0 rfl) ?_
              refine lv_if_eq (tgt := 211) hx hb d_D_load_203 (by decide) (fun e4 => ?_) (fun e4 => (e4 rfl).elim)
              refine lv_lload hx hb d_D_load_211 (lv_at hl 1 rfl) ?_
              refine lv_ldc2 (v := 4294967295) hx hb hown (hts _ (gg_mem k_cn_D_63)) d_D_load_213 ?_
              refine lv_land hx hb d_D_load_216 ?_
              exact pg_lret hC.1 hw (⟨0, tg, ⟨mst, ow, ix, bb, cpy, gb, hm9, ho9, hi9, hc9, hg1⟩, he1, Or.inr (Or.inr ⟨rfl, k, hkn, rfl, kd, hkd, rfl, hth, by rw [← hVe]; unfold loadV; rw [if_pos hw4, if_neg hs1b]⟩)⟩) d_D_load_217
            · refine lv_iload_n hx hb d_D_load_176 rfl (lv_at hl 3 rfl) ?_
              refine lv_bipush (v := 41) hx hb d_D_load_177 (by decide) ?_
              refine lv_icmp_eq (tgt := 194) hx hb d_D_load_179 (by decide) (fun e1 => ?_) (fun e1 => ?_)
              · refine lv_iconst (v := 1) hx hb d_D_load_194 (by decide) ?_
                refine lv_goto (tgt := 199) hx hb d_D_load_195 (by decide) ?_
                refine lv_istore (lv' := [(12, .int 1), (8, .long (lN V)), (11, .int 0), (10, .int 0), (2, .int (nI (40 + kd))), (7, .int (nI (szL kd)))]) hx hb d_D_load_199 hl (by decide) rfl (fun ls hl => ?_)
                refine lv_iload hx hb d_D_load_201 (lv_at hl 0 rfl) ?_
                refine lv_if_eq (tgt := 211) hx hb d_D_load_203 (by decide) (fun e4 => ((by decide : ¬ (1 : Int32) = 0) e4).elim) (fun e4 => ?_)
                refine lv_lload hx hb d_D_load_206 (lv_at hl 1 rfl) ?_
                refine lv_goto (tgt := 217) hx hb d_D_load_208 (by decide) ?_
                exact pg_lret hC.1 hw (⟨0, tg, ⟨mst, ow, ix, bb, cpy, gb, hm9, ho9, hi9, hc9, hg1⟩, he1, Or.inr (Or.inr ⟨rfl, k, hkn, rfl, kd, hkd, rfl, hth, by rw [← hVe]; unfold loadV; rw [if_neg hw4, if_neg hs1b]⟩)⟩) d_D_load_217
              · refine lv_iload_n hx hb d_D_load_182 rfl (lv_at hl 3 rfl) ?_
                refine lv_bipush (v := 43) hx hb d_D_load_183 (by decide) ?_
                refine lv_icmp_eq (tgt := 194) hx hb d_D_load_185 (by decide) (fun e2 => ?_) (fun e2 => ?_)
                · refine lv_iconst (v := 1) hx hb d_D_load_194 (by decide) ?_
                  refine lv_goto (tgt := 199) hx hb d_D_load_195 (by decide) ?_
                  refine lv_istore (lv' := [(12, .int 1), (8, .long (lN V)), (11, .int 0), (10, .int 0), (2, .int (nI (40 + kd))), (7, .int (nI (szL kd)))]) hx hb d_D_load_199 hl (by decide) rfl (fun ls hl => ?_)
                  refine lv_iload hx hb d_D_load_201 (lv_at hl 0 rfl) ?_
                  refine lv_if_eq (tgt := 211) hx hb d_D_load_203 (by decide) (fun e4 => ((by decide : ¬ (1 : Int32) = 0) e4).elim) (fun e4 => ?_)
                  refine lv_lload hx hb d_D_load_206 (lv_at hl 1 rfl) ?_
                  refine lv_goto (tgt := 217) hx hb d_D_load_208 (by decide) ?_
                  exact pg_lret hC.1 hw (⟨0, tg, ⟨mst, ow, ix, bb, cpy, gb, hm9, ho9, hi9, hc9, hg1⟩, he1, Or.inr (Or.inr ⟨rfl, k, hkn, rfl, kd, hkd, rfl, hth, by rw [← hVe]; unfold loadV; rw [if_neg hw4, if_neg hs1b]⟩)⟩) d_D_load_217
                · refine lv_iload_n hx hb d_D_load_188 rfl (lv_at hl 3 rfl) ?_
                  refine lv_bipush (v := 48) hx hb d_D_load_189 (by decide) ?_
                  refine lv_icmp_lt (tgt := 198) hx hb d_D_load_191 (by decide) (fun e3 => (hw4 (hwd.mpr ⟨fun z => e1 (by rw [z]; rfl), fun z => e2 (by rw [z]; rfl), by have h9 : 40 + kd < 48 := (nI_ltI (a := 40 + kd) (b := 48) (by omega) (by decide)).mp e3; omega⟩)).elim) (fun e3 => ?_)
                  refine lv_iconst (v := 1) hx hb d_D_load_194 (by decide) ?_
                  refine lv_goto (tgt := 199) hx hb d_D_load_195 (by decide) ?_
                  refine lv_istore (lv' := [(12, .int 1), (8, .long (lN V)), (11, .int 0), (10, .int 0), (2, .int (nI (40 + kd))), (7, .int (nI (szL kd)))]) hx hb d_D_load_199 hl (by decide) rfl (fun ls hl => ?_)
                  refine lv_iload hx hb d_D_load_201 (lv_at hl 0 rfl) ?_
                  refine lv_if_eq (tgt := 211) hx hb d_D_load_203 (by decide) (fun e4 => ((by decide : ¬ (1 : Int32) = 0) e4).elim) (fun e4 => ?_)
                  refine lv_lload hx hb d_D_load_206 (lv_at hl 1 rfl) ?_
                  refine lv_goto (tgt := 217) hx hb d_D_load_208 (by decide) ?_
                  exact pg_lret hC.1 hw (⟨0, tg, ⟨mst, ow, ix, bb, cpy, gb, hm9, ho9, hi9, hc9, hg1⟩, he1, Or.inr (Or.inr ⟨rfl, k, hkn, rfl, kd, hkd, rfl, hth, by rw [← hVe]; unfold loadV; rw [if_neg hw4, if_neg hs1b]⟩)⟩) d_D_load_217
          · refine lv_iload_n hx hb d_D_load_112 rfl (lv_at hl 1 rfl) ?_
            refine lv_iconst (v := 2) hx hb d_D_load_113 (by decide) ?_
            refine lv_irem hx hb d_D_load_114 (by decide) ?_
            refine tp_i (v := nI ((40 + kd) % 2)) (pk_rem (d := 2) (by omega) (by decide) (by decide)) ?_
            refine lv_if_ne (tgt := 122) hx hb d_D_load_115 (by decide) (fun f2 => ?_) (fun f2 => (hs1b (hsg.mpr ⟨by have h9 : ¬ (40 + kd < 44) := fun z => f1 (nI_lt (b := 44) z (by decide)); omega, nI_inj (b := 0) (by omega) (by decide) f2⟩)).elim)
            refine lv_iconst (v := 0) hx hb d_D_load_122 (by decide) ?_
            refine lv_istore (lv' := [(10, .int 0), (8, .long (lN V)), (2, .int (nI (40 + kd))), (7, .int (nI (szL kd)))]) hx hb d_D_load_123 hl (by decide) rfl (fun ls hl => ?_)
            refine lv_iload hx hb d_D_load_125 (lv_at hl 0 rfl) ?_
            refine lv_if_eq (tgt := 151) hx hb d_D_load_127 (by decide) (fun f3 => ?_) (fun f3 => (f3 rfl).elim)
            refine lv_iconst (v := 0) hx hb d_D_load_151 (by decide) ?_
            refine lv_istore (lv' := [(11, .int 0), (10, .int 0), (8, .long (lN V)), (2, .int (nI (40 + kd))), (7, .int (nI (szL kd)))]) hx hb d_D_load_152 hl (by decide) rfl (fun ls hl => ?_)
            refine lv_iload hx hb d_D_load_154 (lv_at hl 0 rfl) ?_
            refine lv_if_eq (tgt := 172) hx hb d_D_load_156 (by decide) (fun f5 => ?_) (fun f5 => (f5 rfl).elim)
            refine lv_lload hx hb d_D_load_172 (lv_at hl 2 rfl) ?_
            refine lv_lstore (lv' := [(8, .long (lN V)), (11, .int 0), (10, .int 0), (2, .int (nI (40 + kd))), (7, .int (nI (szL kd)))]) hx hb d_D_load_174 hl (by decide) rfl (fun ls hl => ?_)
            by_cases hw4 : tLT kd = 4
            · obtain ⟨hd1, hd3, hd8⟩ := hwd.mp hw4
              refine lv_iload_n hx hb d_D_load_176 rfl (lv_at hl 3 rfl) ?_
              refine lv_bipush (v := 41) hx hb d_D_load_177 (by decide) ?_
              refine lv_icmp_eq (tgt := 194) hx hb d_D_load_179 (by decide) (fun e1 => (hd1 (by have := nI_inj (a := 40 + kd) (b := 41) (by omega) (by decide) e1; omega)).elim) (fun e1 => ?_)
              refine lv_iload_n hx hb d_D_load_182 rfl (lv_at hl 3 rfl) ?_
              refine lv_bipush (v := 43) hx hb d_D_load_183 (by decide) ?_
              refine lv_icmp_eq (tgt := 194) hx hb d_D_load_185 (by decide) (fun e2 => (hd3 (by have := nI_inj (a := 40 + kd) (b := 43) (by omega) (by decide) e2; omega)).elim) (fun e2 => ?_)
              refine lv_iload_n hx hb d_D_load_188 rfl (lv_at hl 3 rfl) ?_
              refine lv_bipush (v := 48) hx hb d_D_load_189 (by decide) ?_
              refine lv_icmp_lt (tgt := 198) hx hb d_D_load_191 (by decide) (fun e3 => ?_) (fun e3 => (e3 (nI_lt (a := 40 + kd) (b := 48) (by omega) (by decide))).elim)
              refine lv_iconst (v := 0) hx hb d_D_load_198 (by decide) ?_
              refine lv_istore (lv' := [(12, .int 0), (8, .long (lN V)), (11, .int 0), (10, .int 0), (2, .int (nI (40 + kd))), (7, .int (nI (szL kd)))]) hx hb d_D_load_199 hl (by decide) rfl (fun ls hl => ?_)
              refine lv_iload hx hb d_D_load_201 (lv_at hl 0 rfl) ?_
              refine lv_if_eq (tgt := 211) hx hb d_D_load_203 (by decide) (fun e4 => ?_) (fun e4 => (e4 rfl).elim)
              refine lv_lload hx hb d_D_load_211 (lv_at hl 1 rfl) ?_
              refine lv_ldc2 (v := 4294967295) hx hb hown (hts _ (gg_mem k_cn_D_63)) d_D_load_213 ?_
              refine lv_land hx hb d_D_load_216 ?_
              exact pg_lret hC.1 hw (⟨0, tg, ⟨mst, ow, ix, bb, cpy, gb, hm9, ho9, hi9, hc9, hg1⟩, he1, Or.inr (Or.inr ⟨rfl, k, hkn, rfl, kd, hkd, rfl, hth, by rw [← hVe]; unfold loadV; rw [if_pos hw4, if_neg hs1b]⟩)⟩) d_D_load_217
            · refine lv_iload_n hx hb d_D_load_176 rfl (lv_at hl 3 rfl) ?_
              refine lv_bipush (v := 41) hx hb d_D_load_177 (by decide) ?_
              refine lv_icmp_eq (tgt := 194) hx hb d_D_load_179 (by decide) (fun e1 => ?_) (fun e1 => ?_)
              · refine lv_iconst (v := 1) hx hb d_D_load_194 (by decide) ?_
                refine lv_goto (tgt := 199) hx hb d_D_load_195 (by decide) ?_
                refine lv_istore (lv' := [(12, .int 1), (8, .long (lN V)), (11, .int 0), (10, .int 0), (2, .int (nI (40 + kd))), (7, .int (nI (szL kd)))]) hx hb d_D_load_199 hl (by decide) rfl (fun ls hl => ?_)
                refine lv_iload hx hb d_D_load_201 (lv_at hl 0 rfl) ?_
                refine lv_if_eq (tgt := 211) hx hb d_D_load_203 (by decide) (fun e4 => ((by decide : ¬ (1 : Int32) = 0) e4).elim) (fun e4 => ?_)
                refine lv_lload hx hb d_D_load_206 (lv_at hl 1 rfl) ?_
                refine lv_goto (tgt := 217) hx hb d_D_load_208 (by decide) ?_
                exact pg_lret hC.1 hw (⟨0, tg, ⟨mst, ow, ix, bb, cpy, gb, hm9, ho9, hi9, hc9, hg1⟩, he1, Or.inr (Or.inr ⟨rfl, k, hkn, rfl, kd, hkd, rfl, hth, by rw [← hVe]; unfold loadV; rw [if_neg hw4, if_neg hs1b]⟩)⟩) d_D_load_217
              · refine lv_iload_n hx hb d_D_load_182 rfl (lv_at hl 3 rfl) ?_
                refine lv_bipush (v := 43) hx hb d_D_load_183 (by decide) ?_
                refine lv_icmp_eq (tgt := 194) hx hb d_D_load_185 (by decide) (fun e2 => ?_) (fun e2 => ?_)
                · refine lv_iconst (v := 1) hx hb d_D_load_194 (by decide) ?_
                  refine lv_goto (tgt := 199) hx hb d_D_load_195 (by decide) ?_
                  refine lv_istore (lv' := [(12, .int 1), (8, .long (lN V)), (11, .int 0), (10, .int 0), (2, .int (nI (40 + kd))), (7, .int (nI (szL kd)))]) hx hb d_D_load_199 hl (by decide) rfl (fun ls hl => ?_)
                  refine lv_iload hx hb d_D_load_201 (lv_at hl 0 rfl) ?_
                  refine lv_if_eq (tgt := 211) hx hb d_D_load_203 (by decide) (fun e4 => ((by decide : ¬ (1 : Int32) = 0) e4).elim) (fun e4 => ?_)
                  refine lv_lload hx hb d_D_load_206 (lv_at hl 1 rfl) ?_
                  refine lv_goto (tgt := 217) hx hb d_D_load_208 (by decide) ?_
                  exact pg_lret hC.1 hw (⟨0, tg, ⟨mst, ow, ix, bb, cpy, gb, hm9, ho9, hi9, hc9, hg1⟩, he1, Or.inr (Or.inr ⟨rfl, k, hkn, rfl, kd, hkd, rfl, hth, by rw [← hVe]; unfold loadV; rw [if_neg hw4, if_neg hs1b]⟩)⟩) d_D_load_217
                · refine lv_iload_n hx hb d_D_load_188 rfl (lv_at hl 3 rfl) ?_
                  refine lv_bipush (v := 48) hx hb d_D_load_189 (by decide) ?_
                  refine lv_icmp_lt (tgt := 198) hx hb d_D_load_191 (by decide) (fun e3 => (hw4 (hwd.mpr ⟨fun z => e1 (by rw [z]; rfl), fun z => e2 (by rw [z]; rfl), by have h9 : 40 + kd < 48 := (nI_ltI (a := 40 + kd) (b := 48) (by omega) (by decide)).mp e3; omega⟩)).elim) (fun e3 => ?_)
                  refine lv_iconst (v := 1) hx hb d_D_load_194 (by decide) ?_
                  refine lv_goto (tgt := 199) hx hb d_D_load_195 (by decide) ?_
                  refine lv_istore (lv' := [(12, .int 1), (8, .long (lN V)), (11, .int 0), (10, .int 0), (2, .int (nI (40 + kd))), (7, .int (nI (szL kd)))]) hx hb d_D_load_199 hl (by decide) rfl (fun ls hl => ?_)
                  refine lv_iload hx hb d_D_load_201 (lv_at hl 0 rfl) ?_
                  refine lv_if_eq (tgt := 211) hx hb d_D_load_203 (by decide) (fun e4 => ((by decide : ¬ (1 : Int32) = 0) e4).elim) (fun e4 => ?_)
                  refine lv_lload hx hb d_D_load_206 (lv_at hl 1 rfl) ?_
                  refine lv_goto (tgt := 217) hx hb d_D_load_208 (by decide) ?_
                  exact pg_lret hC.1 hw (⟨0, tg, ⟨mst, ow, ix, bb, cpy, gb, hm9, ho9, hi9, hc9, hg1⟩, he1, Or.inr (Or.inr ⟨rfl, k, hkn, rfl, kd, hkd, rfl, hth, by rw [← hVe]; unfold loadV; rw [if_neg hw4, if_neg hs1b]⟩)⟩) d_D_load_217
      · refine lv_if_ne (tgt := 51) hx hb d_D_load_44 (by decide) (fun c3 => (c3 rfl).elim) (fun c3 => ?_)
        refine lv_iconst (v := 2) hx hb d_D_load_47 (by decide) ?_
        refine lv_goto (tgt := 52) hx hb d_D_load_48 (by decide) ?_
        refine put_D hC hw hdL hfd 0 (by decide) k_fl_D_28 rfl rfl rfl (Nat.le_of_ble_eq_true rfl) d_D_load_52 (fun H locs hw => ?_)
        obtain ⟨f1, hf1⟩ : ∃ F, F = va_up f d (.inr (3, [.int 2, .int (nI nm), .ref mst, .int (nI al), .ref ow, .ref ix, .ref bb, .ref cpy])) := ⟨_, rfl⟩
        have hw := pw_as (f' := f1) hw rfl hf1.symm
        obtain ⟨hg1, he1⟩ := mod_th hg 2
        rw [← hf1] at hg1 he1
        obtain ⟨⟨hdL1, htd1, hfd1⟩, ⟨hmL1, htm1, hfm1⟩, ⟨hoL1, hto1, hfo1⟩, ⟨hiL1, hti1, hfi1⟩, ⟨hbL1, htb1, hfb1⟩, ⟨hcL1, htc1, hfc1⟩, hk11, hk21, hk31⟩ := id hg1
        refine lv_aload_n hx hb d_D_load_55 rfl (lv_at hl 2 rfl) ?_
        refine get_D hC hw hdL1 hfd1 0 (by decide) k_fl_D_28 rfl d_D_load_56 ?_
        refine lv_if_le (tgt := 64) hx hb d_D_load_59 (by decide) (fun cy => ((by decide : ¬ (2 : Int32) ≤ 0) cy).elim) (fun cy => ?_)
        refine lv_lconst (v := 0) hx hb d_D_load_62 (by decide) ?_
        exact pg_lret hC.1 hw (⟨2, tg, ⟨mst, ow, ix, bb, cpy, gb, hm9, ho9, hi9, hc9, hg1⟩, he1, Or.inr (Or.inl ⟨rfl, k, hkn, rfl, kd, hkd, rfl, hth⟩)⟩) d_D_load_63
    · refine lv_if_ne (tgt := 35) hx hb d_D_load_28 (by decide) (fun c1 => (c1 rfl).elim) (fun c1 => ?_)
      refine lv_iconst (v := 1) hx hb d_D_load_31 (by decide) ?_
      refine lv_goto (tgt := 52) hx hb d_D_load_32 (by decide) ?_
      refine put_D hC hw hdL hfd 0 (by decide) k_fl_D_28 rfl rfl rfl (Nat.le_of_ble_eq_true rfl) d_D_load_52 (fun H locs hw => ?_)
      obtain ⟨f1, hf1⟩ : ∃ F, F = va_up f d (.inr (3, [.int 1, .int (nI nm), .ref mst, .int (nI al), .ref ow, .ref ix, .ref bb, .ref cpy])) := ⟨_, rfl⟩
      have hw := pw_as (f' := f1) hw rfl hf1.symm
      obtain ⟨hg1, he1⟩ := mod_th hg 1
      rw [← hf1] at hg1 he1
      obtain ⟨⟨hdL1, htd1, hfd1⟩, ⟨hmL1, htm1, hfm1⟩, ⟨hoL1, hto1, hfo1⟩, ⟨hiL1, hti1, hfi1⟩, ⟨hbL1, htb1, hfb1⟩, ⟨hcL1, htc1, hfc1⟩, hk11, hk21, hk31⟩ := id hg1
      refine lv_aload_n hx hb d_D_load_55 rfl (lv_at hl 2 rfl) ?_
      refine get_D hC hw hdL1 hfd1 0 (by decide) k_fl_D_28 rfl d_D_load_56 ?_
      refine lv_if_le (tgt := 64) hx hb d_D_load_59 (by decide) (fun cy => ((by decide : ¬ (1 : Int32) ≤ 0) cy).elim) (fun cy => ?_)
      refine lv_lconst (v := 0) hx hb d_D_load_62 (by decide) ?_
      exact pg_lret hC.1 hw (⟨1, tg, ⟨mst, ow, ix, bb, cpy, gb, hm9, ho9, hi9, hc9, hg1⟩, he1, Or.inl ⟨rfl, fun h => hnk h.2⟩⟩) d_D_load_63
  · refine lv_if_eq (tgt := 31) hx hb d_D_load_20 (by decide) (fun c0 => ?_) (fun c0 => (c0 rfl).elim)
    refine lv_iconst (v := 1) hx hb d_D_load_31 (by decide) ?_
    refine lv_goto (tgt := 52) hx hb d_D_load_32 (by decide) ?_
    refine put_D hC hw hdL hfd 0 (by decide) k_fl_D_28 rfl rfl rfl (Nat.le_of_ble_eq_true rfl) d_D_load_52 (fun H locs hw => ?_)
    obtain ⟨f1, hf1⟩ : ∃ F, F = va_up f d (.inr (3, [.int 1, .int (nI nm), .ref mst, .int (nI al), .ref ow, .ref ix, .ref bb, .ref cpy])) := ⟨_, rfl⟩
    have hw := pw_as (f' := f1) hw rfl hf1.symm
    obtain ⟨hg1, he1⟩ := mod_th hg 1
    rw [← hf1] at hg1 he1
    obtain ⟨⟨hdL1, htd1, hfd1⟩, ⟨hmL1, htm1, hfm1⟩, ⟨hoL1, hto1, hfo1⟩, ⟨hiL1, hti1, hfi1⟩, ⟨hbL1, htb1, hfb1⟩, ⟨hcL1, htc1, hfc1⟩, hk11, hk21, hk31⟩ := id hg1
    refine lv_aload_n hx hb d_D_load_55 rfl (lv_at hl 2 rfl) ?_
    refine get_D hC hw hdL1 hfd1 0 (by decide) k_fl_D_28 rfl d_D_load_56 ?_
    refine lv_if_le (tgt := 64) hx hb d_D_load_59 (by decide) (fun cy => ((by decide : ¬ (1 : Int32) ≤ 0) cy).elim) (fun cy => ?_)
    refine lv_lconst (v := 0) hx hb d_D_load_62 (by decide) ?_
    exact pg_lret hC.1 hw (⟨1, tg, ⟨mst, ow, ix, bb, cpy, gb, hm9, ho9, hi9, hc9, hg1⟩, he1, Or.inl ⟨rfl, fun h => hno h.1⟩⟩) d_D_load_63
