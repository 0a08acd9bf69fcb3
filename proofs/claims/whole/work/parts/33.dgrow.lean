/-! The reference: grow, its constructor -/
set_option maxHeartbeats 4000000 in
set_option maxRecDepth 100000 in
theorem lp_grow {p : Program} {l : Launch} {e : Env} {R : Room} {s : State} {m : MethodId} {args : Array Value} {below : List Frame} {meth : Method} {c : Code} {Q : State → Prop} {A : Nat → Prop} {D : va_G} {kc : Nat → ClassId} {c0 : Cond} {ret : Option FieldType} {L : List Nat} {f : Nat → va_E} {d mst ow ix bb cpy : Nat} {gb : Nat → Option Nat} {hm9 hc9 : Nat → Int32} {tg : Nat → Nat × Nat} {th : Int32} {nm : Nat} {mo : Nat → Int32} {om : Nat → Nat} {al : Nat} {bs : Nat → Nat → Nat} {cells slots : Nat} (hcs : cells ≤ R.cells ∧ slots ≤ R.slots) (k lz : Nat) (hbz : ∀ j, 65536 * cnt om al k ≤ j → bs k j = 0) (hlz : al + lz ≤ 16) (hC : Kx p m c b_D_grow 7 s args c0 R_D meth ret D kc A) (hRf : 1 ≤ R.frames) (hRl : 22 ≤ R.locals)
    (kont : ∀ (f' : Nat → va_E) (ho' hi' : Nat → Int32) (H : Heap) (locs : List Loc) (ls : Array Slot), modG kc L f' tg d mst ow ix bb cpy gb hm9 ho' hi' hc9 th nm mo (appN om al k) (al + lz) bs → Ext SD L f tg (L, f') tg → pw D Cls A s.heap H locs L f' → lv_has ls 7 [(3, .int (nI (cnt om al k)))] → W p l e R s m args below meth c H locs cells slots Q (F0 m 121 ls [])) :
    ∀ (n : Nat) (i : Nat) (f' : Nat → va_E) (ho' hi' : Nat → Int32) (H : Heap) (locs : List Loc) (ls : Array Slot), i ≤ lz → lz + 1 ≤ i + n → modG kc L f' tg d mst ow ix bb cpy gb hm9 ho' hi' hc9 th nm mo (appN om al k) (al + i) bs → Ext SD L f tg (L, f') tg → pw D Cls A s.heap H locs L f' → lv_has ls 7 [(6, .int (nI i)), (0, .ref d), (1, .int (nI k)), (2, .int (nI lz)), (3, .int (nI (cnt om al k)))] → W p l e R s m args below meth c H locs cells slots Q (F0 m 100 ls []) := by
  obtain ⟨⟨⟨hx, hb, hml, hown, hts⟩, hret9, hlocks⟩, hK, hE, hA⟩ := id hC
  intro n
  induction n with
  | zero => intro i f' ho' hi' H locs ls hi hin hm he hw hl; exact absurd hin (by omega)
  | succ n ih =>
    intro i f' ho' hi' H locs ls hi hin hm he hw hl
    obtain ⟨⟨hdL, htd, hfd⟩, -⟩ := id hm
    refine lv_iload hx hb d_D_grow_100 (lv_at hl 0 rfl) ?_
    refine lv_iload_n hx hb d_D_grow_102 rfl (lv_at hl 3 rfl) ?_
    refine lv_icmp_ge (tgt := 121) hx hb d_D_grow_103 (by decide) (fun c1 => ?_) (fun c1 => ?_)
    · have e : i = lz := by
        rcases Nat.lt_or_ge i lz with q | q
        · exact absurd c1 (nI_ge q (by omega))
        · omega
      subst e
      exact kont f' ho' hi' H locs ls hm he hw (lv_sub hl [4] rfl)
    · have hlt : i < lz := by
        rcases Nat.lt_or_ge i lz with q | q
        · exact q
        · exact absurd (nI_le q (by omega)) c1
      have hci : cnt (appN om al k) (al + i) k = cnt om al k + i := by rw [cnt_app, if_pos rfl]
      refine lv_aload_n hx hb d_D_grow_106 rfl (lv_at hl 1 rfl) ?_
      refine lv_iload_n hx hb d_D_grow_107 rfl (lv_at hl 2 rfl) ?_
      refine lv_iload_n hx hb d_D_grow_108 rfl (lv_at hl 4 rfl) ?_
      refine lv_iload hx hb d_D_grow_109 (lv_at hl 0 rfl) ?_
      refine lv_iadd hx hb d_D_grow_111 ?_
      refine tp_i (v := nI (cnt (appN om al k) (al + i) k)) (by rw [hci, nI_add]) ?_
      refine callVv (As := [.int (nI k), .int (nI (cnt (appN om al k) (al + i) k))]) (n9 := 2) hC hw (c_D_add l D kc _ _ _ d mst ow ix bb cpy gb hm9 ho' hi' hc9 tg th nm mo (appN om al k) (al + i) bs hm k (by omega) (fun j hj => hbz j (by omega))) k_co_D_add k_ml_D_47 k_im_D_add k_se_D_add k_in_D rfl rfl (by decide +kernel) rfl ⟨Nat.le_trans (Nat.le_of_ble_eq_true rfl) hRf, Nat.le_trans (Nat.le_of_ble_eq_true rfl) hRl⟩ hdL hfd rfl hl.1 rfl (Nat.le_of_ble_eq_true rfl) d_D_grow_112 ⟨hcs.1, hcs.2⟩ (fun u H locs hp hw => ?_)
      obtain ⟨ho2, hi2, hu2, hm2, he2⟩ := hp
      obtain ⟨f2, rfl⟩ := hu2
      dsimp only at hw hm2 he2
      rw [appN_app, Nat.add_assoc] at hm2
      refine lv_iinc (v := nI (i + 1)) (lv' := [(6, .int (nI (i + 1))), (0, .ref d), (1, .int (nI k)), (2, .int (nI lz)), (3, .int (nI (cnt om al k)))]) hx hb d_D_grow_115 hl (k := 0) rfl (nI_1 i) (by decide) rfl (fun ls hl => ?_)
      refine lv_goto (tgt := 100) hx hb d_D_grow_118 (by decide) ?_
      exact ih (i + 1) f2 ho2 hi2 _ _ _ (by omega) (by omega) hm2 (he.tr he2) hw (lv_sub hl [0, 1, 2, 3, 4] rfl)
set_option maxHeartbeats 4000000 in
set_option maxRecDepth 100000 in
theorem c_D_grow (l : Launch) (D : va_G) (kc : Nat → ClassId) (L : List Nat) (f : Nat → va_E) (sz : Nat) (d mst ow ix bb cpy : Nat) (gb : Nat → Option Nat) (hm9 ho9 hi9 hc9 : Nat → Int32) (tg : Nat → Nat × Nat) (th : Int32) (nm : Nat) (mo : Nat → Int32) (om : Nat → Nat) (al : Nat) (bs : Nat → Nat → Nat) (hg : modG kc L f tg d mst ow ix bb cpy gb hm9 ho9 hi9 hc9 th nm mo om al bs) (hs : stOK nm mo om al bs) (mm gn : Int32) : Met l y_D_grow w_D_grow ({ frames := 1, cells := 0, slots := 0, locals := 23 }) (PP D kc L f sz [.ref d, .int mm, .int gn]) (Qi D L f sz (fun r u => ∃ t9 tg', Ext SD L f tg u tg' ∧ ((t9 = 1 ∧ ¬ (∃ k, k < nm ∧ mm = nI k) ∧ modP kc u.1 u.2 tg' d t9 nm mo om al bs) ∨ (t9 = 0 ∧ ∃ k, k < nm ∧ mm = nI k ∧ ∃ lim, limP (mo k) lim ∧ ((¬ (cnt om al k + uI gn ≤ lim ∧ al + uI gn ≤ 16) ∧ r = -1 ∧ modP kc u.1 u.2 tg' d t9 nm mo om al bs) ∨ (cnt om al k + uI gn ≤ lim ∧ al + uI gn ≤ 16 ∧ r = nI (cnt om al k) ∧ modP kc u.1 u.2 tg' d t9 nm mo (appN om al k) (al + uI gn) bs)))))) 0 0 (pA L f sz) := by
  refine kx_met (by decide) (Nat.le_of_ble_eq_true rfl) ?_
  intro p e s m below meth c hC hnm hw hsz ls hl
  subst hsz
  have hl : lv_has ls 7 [(0, .ref d), (1, .int mm), (2, .int gn)] := hl
  obtain ⟨⟨⟨hx, hb, hml, hown, hts⟩, hret9, hlocks⟩, hK, hE, hA⟩ := id hC
  obtain ⟨⟨hdL, htd, hfd⟩, ⟨hmL, htm, hfm⟩, ⟨hoL, hto, hfo⟩, ⟨hiL, hti, hfi⟩, ⟨hbL, htb, hfb⟩, ⟨hcL, htc, hfc⟩, hk1, hk2, hk3⟩ := id hg
  obtain ⟨hs1, hs2, hs3, hs4, hs5, hs6⟩ := id hs
  refine lv_aload_n hx hb d_D_grow_0 rfl (lv_at hl 0 rfl) ?_
  refine lv_aload_n hx hb d_D_grow_1 rfl (lv_at hl 0 rfl) ?_
  refine lv_iload_n hx hb d_D_grow_2 rfl (lv_at hl 1 rfl) ?_
  refine callVi (As := [.int mm]) (n9 := 1) hC hw (c_D_isMemory l D kc _ _ _ d mst ow ix bb cpy gb hm9 ho9 hi9 hc9 tg th nm mo om al bs hg hs mm) k_co_D_isMemory k_ml_D_51 k_im_D_isMemory k_se_D_isMemory k_in_D rfl rfl (by decide +kernel) rfl ⟨Nat.le_of_ble_eq_true rfl, Nat.le_of_ble_eq_true rfl⟩ hdL hfd rfl hl.1 rfl (Nat.le_of_ble_eq_true rfl) d_D_grow_3 ⟨Nat.le_of_ble_eq_true rfl, Nat.le_of_ble_eq_true rfl⟩ (fun r9 u H locs hp hw => ?_)
  obtain ⟨hp, rfl⟩ := hp
  rcases hp with ⟨rfl, k, hkn, rfl⟩ | ⟨rfl, hno⟩
  · refine lv_if_eq (tgt := 13) hx hb d_D_grow_6 (by decide) (fun c0 => ((by decide : ¬ (1 : Int32) = 0) c0).elim) (fun c0 => ?_)
    refine lv_iconst (v := 0) hx hb d_D_grow_9 (by decide) ?_
    refine lv_goto (tgt := 14) hx hb d_D_grow_10 (by decide) ?_
    refine put_D hC hw hdL hfd 0 (by decide) k_fl_D_28 rfl rfl rfl (Nat.le_of_ble_eq_true rfl) d_D_grow_14 (fun H locs hw => ?_)
    obtain ⟨f1, hf1⟩ : ∃ F, F = va_up f d (.inr (3, [.int 0, .int (nI nm), .ref mst, .int (nI al), .ref ow, .ref ix, .ref bb, .ref cpy])) := ⟨_, rfl⟩
    have hw := pw_as (f' := f1) hw rfl hf1.symm
    obtain ⟨hg1, he1⟩ := mod_th hg 0
    rw [← hf1] at hg1 he1
    obtain ⟨⟨hdL1, htd1, hfd1⟩, ⟨hmL1, htm1, hfm1⟩, ⟨hoL1, hto1, hfo1⟩, ⟨hiL1, hti1, hfi1⟩, ⟨hbL1, htb1, hfb1⟩, ⟨hcL1, htc1, hfc1⟩, hk11, hk21, hk31⟩ := id hg1
    refine lv_aload_n hx hb d_D_grow_17 rfl (lv_at hl 0 rfl) ?_
    refine get_D hC hw hdL1 hfd1 0 (by decide) k_fl_D_28 rfl d_D_grow_18 ?_
    refine lv_if_le (tgt := 26) hx hb d_D_grow_21 (by decide) (fun c1 => ?_) (fun c1 => (c1 (by decide)).elim)
    refine lv_aload_n hx hb d_D_grow_26 rfl (lv_at hl 0 rfl) ?_
    refine lv_iload_n hx hb d_D_grow_27 rfl (lv_at hl 1 rfl) ?_
    refine callVi (As := [.int (nI k)]) (n9 := 1) hC hw (c_D_count l D kc _ _ _ d mst ow ix bb cpy gb hm9 ho9 hi9 hc9 tg 0 nm mo om al bs hg1 hs k hkn) k_co_D_count k_ml_D_55 k_im_D_count k_se_D_count k_in_D rfl rfl (by decide +kernel) rfl ⟨Nat.le_of_ble_eq_true rfl, Nat.le_of_ble_eq_true rfl⟩ hdL1 hfd1 rfl hl.1 rfl (Nat.le_of_ble_eq_true rfl) d_D_grow_28 ⟨Nat.le_of_ble_eq_true rfl, Nat.le_of_ble_eq_true rfl⟩ (fun r9 u H locs hp hw => ?_)
    obtain ⟨rfl, rfl⟩ := hp
    obtain ⟨lim, hlim, hlim9, hlimv⟩ := limP_of hs hkn
    have hu := uI_lt gn
    have hcl := cnt_le om k al
    refine lv_istore_n (lv' := [(3, .int (nI (cnt om al k))), (0, .ref d), (1, .int (nI k)), (2, .int gn)]) hx hb d_D_grow_31 rfl hl (by decide) rfl (fun ls hl => ?_)
    refine lv_iload_n hx hb d_D_grow_32 rfl (lv_at hl 3 rfl) ?_
    refine lv_if_ge (tgt := 45) hx hb d_D_grow_33 (by decide) (fun c2 => ?_) (fun c2 => ?_)
    · refine lv_iload_n hx hb d_D_grow_45 rfl (lv_at hl 3 rfl) ?_
      refine lv_i2l hx hb d_D_grow_46 rfl ?_
      refine tp_l (v := lN (uI gn)) (u64_pos (Int32.not_lt.mpr c2)) ?_
      refine lv_lstore (lv' := [(4, .long (lN (uI gn))), (3, .int (nI (cnt om al k))), (0, .ref d), (1, .int (nI k)), (2, .int gn)]) hx hb d_D_grow_47 hl (by decide) rfl (fun ls hl => ?_)
      refine lv_iload_n hx hb d_D_grow_49 rfl (lv_at hl 1 rfl) ?_
      refine lv_i2l hx hb d_D_grow_50 rfl ?_
      refine lv_lload hx hb d_D_grow_51 (lv_at hl 0 rfl) ?_
      refine lv_ladd hx hb d_D_grow_53 ?_
      refine tp_l (v := lN (cnt om al k + uI gn)) (by rw [nI_toI64 _ (by omega), lN_add]) ?_
      refine lv_aload_n hx hb d_D_grow_54 rfl (lv_at hl 2 rfl) ?_
      refine get_D hC hw hdL1 hfd1 2 (by decide) k_fl_D_9 rfl d_D_grow_55 ?_
      refine lv_iload_n hx hb d_D_grow_58 rfl (lv_at hl 3 rfl) ?_
      refine ald_I hC hw hmL1 hfm1 (by omega) (by decide) d_D_grow_59 ?_
      refine tp_i (v := mo k) (hk1 k hkn) ?_
      refine lv_iconst (v := (-1)) hx hb d_D_grow_60 (by decide) ?_
      refine lv_icmp_ne (tgt := 69) hx hb d_D_grow_61 (by decide) (fun c3 => ?_) (fun c3 => ?_)
      · refine lv_aload_n hx hb d_D_grow_69 rfl (lv_at hl 2 rfl) ?_
        refine get_D hC hw hdL1 hfd1 2 (by decide) k_fl_D_9 rfl d_D_grow_70 ?_
        refine lv_iload_n hx hb d_D_grow_73 rfl (lv_at hl 3 rfl) ?_
        refine ald_I hC hw hmL1 hfm1 (by omega) (by decide) d_D_grow_74 ?_
        refine tp_i (v := nI lim) (by rw [hk1 k hkn, ← hlimv, if_neg c3]) ?_
        refine lv_i2l hx hb d_D_grow_75 rfl ?_
        refine tp_l (v := lN lim) (nI_toI64 _ (by omega)) ?_
        refine W.lcmp hx hb d_D_grow_76 ?_
        refine lv_if_gt (tgt := 95) hx hb d_D_grow_77 (by decide) (fun c4 => ?_) (fun c4 => ?_)
        · refine lv_iconst (v := (-1)) hx hb d_D_grow_95 (by decide) ?_
          exact pg_iret hC.1 hw (⟨0, tg, he1, Or.inr ⟨rfl, k, hkn, rfl, lim, hlim, Or.inl ⟨fun h => by rw [lg_cmp_gt, pk_lLT (by omega) (by omega)] at c4; omega, rfl, ⟨mst, ow, ix, bb, cpy, gb, hm9, ho9, hi9, hc9, hg1⟩⟩⟩⟩) d_D_grow_96
        · refine lv_aload_n hx hb d_D_grow_80 rfl (lv_at hl 2 rfl) ?_
          refine get_D hC hw hdL1 hfd1 3 (by decide) k_fl_D_35 rfl d_D_grow_81 ?_
          refine lv_i2l hx hb d_D_grow_84 rfl ?_
          refine tp_l (v := lN al) (nI_toI64 _ (by omega)) ?_
          refine lv_lload hx hb d_D_grow_85 (lv_at hl 0 rfl) ?_
          refine lv_ladd hx hb d_D_grow_87 ?_
          refine tp_l (v := lN (al + uI gn)) (lN_add _ _) ?_
          refine lv_ldc2 (v := 16) hx hb hown (hts _ (gg_mem k_cn_D_61)) d_D_grow_88 ?_
          refine W.lcmp hx hb d_D_grow_91 ?_
          refine lv_if_le (tgt := 97) hx hb d_D_grow_92 (by decide) (fun c5 => ?_) (fun c5 => ?_)
          · have hle1 : cnt om al k + uI gn ≤ lim := by rw [lg_cmp_gt, pk_lLT (by omega) (by omega)] at c4; omega
            have hle2 : al + uI gn ≤ 16 := by rw [lg_cmp_le] at c5; exact (pk_lLE (b := 16) (by omega) (by omega)).mp c5
            have hl : lv_has ls 7 [(4, .long (lN (uI gn))), (3, .int (nI (cnt om al k))), (0, .ref d), (1, .int (nI k)), (2, .int (nI (uI gn)))] := by rw [nI_uI]; exact hl
            refine lv_iconst (v := 0) hx hb d_D_grow_97 (by decide) ?_
            refine lv_istore (lv' := [(6, .int 0), (4, .long (lN (uI gn))), (3, .int (nI (cnt om al k))), (0, .ref d), (1, .int (nI k)), (2, .int (nI (uI gn)))]) hx hb d_D_grow_98 hl (by decide) rfl (fun ls hl => ?_)
            refine lp_grow ⟨Nat.zero_le _, Nat.zero_le _⟩ k (uI gn) (hs5 k) hle2 hC (Nat.le_of_ble_eq_true rfl) (Nat.le_of_ble_eq_true rfl) (fun f2 ho2 hi2 H locs ls hg2 he2 hw hl => ?_) (uI gn + 1) 0 f1 ho9 hi9 _ _ _ (Nat.zero_le _) (by omega) (mod_om hg1 k) Ext.rf hw (lv_sub hl [0, 3, 4, 5, 2] rfl)
            refine lv_iload_n hx hb d_D_grow_121 rfl (lv_at hl 0 rfl) ?_
            exact pg_iret hC.1 hw (⟨0, tg, he1.tr he2, Or.inr ⟨rfl, k, hkn, rfl, lim, hlim, Or.inr ⟨hle1, hle2, rfl, mst, ow, ix, bb, cpy, gb, hm9, ho2, hi2, hc9, hg2⟩⟩⟩) d_D_grow_122
          · refine lv_iconst (v := (-1)) hx hb d_D_grow_95 (by decide) ?_
            exact pg_iret hC.1 hw (⟨0, tg, he1, Or.inr ⟨rfl, k, hkn, rfl, lim, hlim, Or.inl ⟨fun h => c5 (by rw [lg_cmp_le]; exact (pk_lLE (b := 16) (by omega) (by omega)).mpr h.2), rfl, ⟨mst, ow, ix, bb, cpy, gb, hm9, ho9, hi9, hc9, hg1⟩⟩⟩⟩) d_D_grow_96
      · refine lv_ldc (v := 65536) hx hb hown (hts _ (gg_mem k_cn_D_46)) d_D_grow_64 ?_
        refine lv_goto (tgt := 75) hx hb d_D_grow_66 (by decide) ?_
        refine tp_i (v := nI lim) (by rw [← hlimv, if_pos c3]) ?_
        refine lv_i2l hx hb d_D_grow_75 rfl ?_
        refine tp_l (v := lN lim) (nI_toI64 _ (by omega)) ?_
        refine W.lcmp hx hb d_D_grow_76 ?_
        refine lv_if_gt (tgt := 95) hx hb d_D_grow_77 (by decide) (fun c4 => ?_) (fun c4 => ?_)
        · refine lv_iconst (v := (-1)) hx hb d_D_grow_95 (by decide) ?_
          exact pg_iret hC.1 hw (⟨0, tg, he1, Or.inr ⟨rfl, k, hkn, rfl, lim, hlim, Or.inl ⟨fun h => by rw [lg_cmp_gt, pk_lLT (by omega) (by omega)] at c4; omega, rfl, ⟨mst, ow, ix, bb, cpy, gb, hm9, ho9, hi9, hc9, hg1⟩⟩⟩⟩) d_D_grow_96
        · refine lv_aload_n hx hb d_D_grow_80 rfl (lv_at hl 2 rfl) ?_
          refine get_D hC hw hdL1 hfd1 3 (by decide) k_fl_D_35 rfl d_D_grow_81 ?_
          refine lv_i2l hx hb d_D_grow_84 rfl ?_
          refine tp_l (v := lN al) (nI_toI64 _ (by omega)) ?_
          refine lv_lload hx hb d_D_grow_85 (lv_at hl 0 rfl) ?_
          refine lv_ladd hx hb d_D_grow_87 ?_
          refine tp_l (v := lN (al + uI gn)) (lN_add _ _) ?_
          refine lv_ldc2 (v := 16) hx hb hown (hts _ (gg_mem k_cn_D_61)) d_D_grow_88 ?_
          refine W.lcmp hx hb d_D_grow_91 ?_
          refine lv_if_le (tgt := 97) hx hb d_D_grow_92 (by decide) (fun c5 => ?_) (fun c5 => ?_)
          · have hle1 : cnt om al k + uI gn ≤ lim := by rw [lg_cmp_gt, pk_lLT (by omega) (by omega)] at c4; omega
            have hle2 : al + uI gn ≤ 16 := by rw [lg_cmp_le] at c5; exact (pk_lLE (b := 16) (by omega) (by omega)).mp c5
            have hl : lv_has ls 7 [(4, .long (lN (uI gn))), (3, .int (nI (cnt om al k))), (0, .ref d), (1, .int (nI k)), (2, .int (nI (uI gn)))] := by rw [nI_uI]; exact hl
            refine lv_iconst (v := 0) hx hb d_D_grow_97 (by decide) ?_
            refine lv_istore (lv' := [(6, .int 0), (4, .long (lN (uI gn))), (3, .int (nI (cnt om al k))), (0, .ref d), (1, .int (nI k)), (2, .int (nI (uI gn)))]) hx hb d_D_grow_98 hl (by decide) rfl (fun ls hl => ?_)
            refine lp_grow ⟨Nat.zero_le _, Nat.zero_le _⟩ k (uI gn) (hs5 k) hle2 hC (Nat.le_of_ble_eq_true rfl) (Nat.le_of_ble_eq_true rfl) (fun f2 ho2 hi2 H locs ls hg2 he2 hw hl => ?_) (uI gn + 1) 0 f1 ho9 hi9 _ _ _ (Nat.zero_le _) (by omega) (mod_om hg1 k) Ext.rf hw (lv_sub hl [0, 3, 4, 5, 2] rfl)
            refine lv_iload_n hx hb d_D_grow_121 rfl (lv_at hl 0 rfl) ?_
            exact pg_iret hC.1 hw (⟨0, tg, he1.tr he2, Or.inr ⟨rfl, k, hkn, rfl, lim, hlim, Or.inr ⟨hle1, hle2, rfl, mst, ow, ix, bb, cpy, gb, hm9, ho2, hi2, hc9, hg2⟩⟩⟩) d_D_grow_122
          · refine lv_iconst (v := (-1)) hx hb d_D_grow_95 (by decide) ?_
            exact pg_iret hC.1 hw (⟨0, tg, he1, Or.inr ⟨rfl, k, hkn, rfl, lim, hlim, Or.inl ⟨fun h => c5 (by rw [lg_cmp_le]; exact (pk_lLE (b := 16) (by omega) (by omega)).mpr h.2), rfl, ⟨mst, ow, ix, bb, cpy, gb, hm9, ho9, hi9, hc9, hg1⟩⟩⟩⟩) d_D_grow_96
    · refine lv_iload_n hx hb d_D_grow_36 rfl (lv_at hl 3 rfl) ?_
      refine lv_i2l hx hb d_D_grow_37 rfl ?_
      refine lv_ldc2 (v := 4294967296) hx hb hown (hts _ (gg_mem k_cn_D_59)) d_D_grow_38 ?_
      refine lv_ladd hx hb d_D_grow_41 ?_
      refine tp_l (v := lN (uI gn)) (u64_neg (Int32.not_le.mp c2)) ?_
      refine lv_goto (tgt := 47) hx hb d_D_grow_42 (by decide) ?_
      refine lv_lstore (lv' := [(4, .long (lN (uI gn))), (3, .int (nI (cnt om al k))), (0, .ref d), (1, .int (nI k)), (2, .int gn)]) hx hb d_D_grow_47 hl (by decide) rfl (fun ls hl => ?_)
      refine lv_iload_n hx hb d_D_grow_49 rfl (lv_at hl 1 rfl) ?_
      refine lv_i2l hx hb d_D_grow_50 rfl ?_
      refine lv_lload hx hb d_D_grow_51 (lv_at hl 0 rfl) ?_
      refine lv_ladd hx hb d_D_grow_53 ?_
      refine tp_l (v := lN (cnt om al k + uI gn)) (by rw [nI_toI64 _ (by omega), lN_add]) ?_
      refine lv_aload_n hx hb d_D_grow_54 rfl (lv_at hl 2 rfl) ?_
      refine get_D hC hw hdL1 hfd1 2 (by decide) k_fl_D_9 rfl d_D_grow_55 ?_
      refine lv_iload_n hx hb d_D_grow_58 rfl (lv_at hl 3 rfl) ?_
      refine ald_I hC hw hmL1 hfm1 (by omega) (by decide) d_D_grow_59 ?_
      refine tp_i (v := mo k) (hk1 k hkn) ?_
      refine lv_iconst (v := (-1)) hx hb d_D_grow_60 (by decide) ?_
      refine lv_icmp_ne (tgt := 69) hx hb d_D_grow_61 (by decide) (fun c3 => ?_) (fun c3 => ?_)
      · refine lv_aload_n hx hb d_D_grow_69 rfl (lv_at hl 2 rfl) ?_
        refine get_D hC hw hdL1 hfd1 2 (by decide) k_fl_D_9 rfl d_D_grow_70 ?_
        refine lv_iload_n hx hb d_D_grow_73 rfl (lv_at hl 3 rfl) ?_
        refine ald_I hC hw hmL1 hfm1 (by omega) (by decide) d_D_grow_74 ?_
        refine tp_i (v := nI lim) (by rw [hk1 k hkn, ← hlimv, if_neg c3]) ?_
        refine lv_i2l hx hb d_D_grow_75 rfl ?_
        refine tp_l (v := lN lim) (nI_toI64 _ (by omega)) ?_
        refine W.lcmp hx hb d_D_grow_76 ?_
        refine lv_if_gt (tgt := 95) hx hb d_D_grow_77 (by decide) (fun c4 => ?_) (fun c4 => ?_)
        · refine lv_iconst (v := (-1)) hx hb d_D_grow_95 (by decide) ?_
          exact pg_iret hC.1 hw (⟨0, tg, he1, Or.inr ⟨rfl, k, hkn, rfl, lim, hlim, Or.inl ⟨fun h => by rw [lg_cmp_gt, pk_lLT (by omega) (by omega)] at c4; omega, rfl, ⟨mst, ow, ix, bb, cpy, gb, hm9, ho9, hi9, hc9, hg1⟩⟩⟩⟩) d_D_grow_96
        · refine lv_aload_n hx hb d_D_grow_80 rfl (lv_at hl 2 rfl) ?_
          refine get_D hC hw hdL1 hfd1 3 (by decide) k_fl_D_35 rfl d_D_grow_81 ?_
          refine lv_i2l hx hb d_D_grow_84 rfl ?_
          refine tp_l (v := lN al) (nI_toI64 _ (by omega)) ?_
          refine lv_lload hx hb d_D_grow_85 (lv_at hl 0 rfl) ?_
          refine lv_ladd hx hb d_D_grow_87 ?_
          refine tp_l (v := lN (al + uI gn)) (lN_add _ _) ?_
          refine lv_ldc2 (v := 16) hx hb hown (hts _ (gg_mem k_cn_D_61)) d_D_grow_88 ?_
          refine W.lcmp hx hb d_D_grow_91 ?_
          refine lv_if_le (tgt := 97) hx hb d_D_grow_92 (by decide) (fun c5 => ?_) (fun c5 => ?_)
          · have hle1 : cnt om al k + uI gn ≤ lim := by rw [lg_cmp_gt, pk_lLT (by omega) (by omega)] at c4; omega
            have hle2 : al + uI gn ≤ 16 := by rw [lg_cmp_le] at c5; exact (pk_lLE (b := 16) (by omega) (by omega)).mp c5
            have hl : lv_has ls 7 [(4, .long (lN (uI gn))), (3, .int (nI (cnt om al k))), (0, .ref d), (1, .int (nI k)), (2, .int (nI (uI gn)))] := by rw [nI_uI]; exact hl
            refine lv_iconst (v := 0) hx hb d_D_grow_97 (by decide) ?_
            refine lv_istore (lv' := [(6, .int 0), (4, .long (lN (uI gn))), (3, .int (nI (cnt om al k))), (0, .ref d), (1, .int (nI k)), (2, .int (nI (uI gn)))]) hx hb d_D_grow_98 hl (by decide) rfl (fun ls hl => ?_)
            refine lp_grow ⟨Nat.zero_le _, Nat.zero_le _⟩ k (uI gn) (hs5 k) hle2 hC (Nat.le_of_ble_eq_true rfl) (Nat.le_of_ble_eq_true rfl) (fun f2 ho2 hi2 H locs ls hg2 he2 hw hl => ?_) (uI gn + 1) 0 f1 ho9 hi9 _ _ _ (Nat.zero_le _) (by omega) (mod_om hg1 k) Ext.rf hw (lv_sub hl [0, 3, 4, 5, 2] rfl)
            refine lv_iload_n hx hb d_D_grow_121 rfl (lv_at hl 0 rfl) ?_
            exact pg_iret hC.1 hw (⟨0, tg, he1.tr he2, Or.inr ⟨rfl, k, hkn, rfl, lim, hlim, Or.inr ⟨hle1, hle2, rfl, mst, ow, ix, bb, cpy, gb, hm9, ho2, hi2, hc9, hg2⟩⟩⟩) d_D_grow_122
          · refine lv_iconst (v := (-1)) hx hb d_D_grow_95 (by decide) ?_
            exact pg_iret hC.1 hw (⟨0, tg, he1, Or.inr ⟨rfl, k, hkn, rfl, lim, hlim, Or.inl ⟨fun h => c5 (by rw [lg_cmp_le]; exact (pk_lLE (b := 16) (by omega) (by omega)).mpr h.2), rfl, ⟨mst, ow, ix, bb, cpy, gb, hm9, ho9, hi9, hc9, hg1⟩⟩⟩⟩) d_D_grow_96
      · refine lv_ldc (v := 65536) hx hb hown (hts _ (gg_mem k_cn_D_46)) d_D_grow_64 ?_
        refine lv_goto (tgt := 75) hx hb d_D_grow_66 (by decide) ?_
        refine tp_i (v := nI lim) (by rw [← hlimv, if_pos c3]) ?_
        refine lv_i2l hx hb d_D_grow_75 rfl ?_
        refine tp_l (v := lN lim) (nI_toI64 _ (by omega)) ?_
        refine W.lcmp hx hb d_D_grow_76 ?_
        refine lv_if_gt (tgt := 95) hx hb d_D_grow_77 (by decide) (fun c4 => ?_) (fun c4 => ?_)
        · refine lv_iconst (v := (-1)) hx hb d_D_grow_95 (by decide) ?_
          exact pg_iret hC.1 hw (⟨0, tg, he1, Or.inr ⟨rfl, k, hkn, rfl, lim, hlim, Or.inl ⟨fun h => by rw [lg_cmp_gt, pk_lLT (by omega) (by omega)] at c4; omega, rfl, ⟨mst, ow, ix, bb, cpy, gb, hm9, ho9, hi9, hc9, hg1⟩⟩⟩⟩) d_D_grow_96
        · refine lv_aload_n hx hb d_D_grow_80 rfl (lv_at hl 2 rfl) ?_
          refine get_D hC hw hdL1 hfd1 3 (by decide) k_fl_D_35 rfl d_D_grow_81 ?_
          refine lv_i2l hx hb d_D_grow_84 rfl ?_
          refine tp_l (v := lN al) (nI_toI64 _ (by omega)) ?_
          refine lv_lload hx hb d_D_grow_85 (lv_at hl 0 rfl) ?_
          refine lv_ladd hx hb d_D_grow_87 ?_
          refine tp_l (v := lN (al + uI gn)) (lN_add _ _) ?_
          refine lv_ldc2 (v := 16) hx hb hown (hts _ (gg_mem k_cn_D_61)) d_D_grow_88 ?_
          refine W.lcmp hx hb d_D_grow_91 ?_
          refine lv_if_le (tgt := 97) hx hb d_D_grow_92 (by decide) (fun c5 => ?_) (fun c5 => ?_)
          · have hle1 : cnt om al k + uI gn ≤ lim := by rw [lg_cmp_gt, pk_lLT (by omega) (by omega)] at c4; omega
            have hle2 : al + uI gn ≤ 16 := by rw [lg_cmp_le] at c5; exact (pk_lLE (b := 16) (by omega) (by omega)).mp c5
            have hl : lv_has ls 7 [(4, .long (lN (uI gn))), (3, .int (nI (cnt om al k))), (0, .ref d), (1, .int (nI k)), (2, .int (nI (uI gn)))] := by rw [nI_uI]; exact hl
            refine lv_iconst (v := 0) hx hb d_D_grow_97 (by decide) ?_
            refine lv_istore (lv' := [(6, .int 0), (4, .long (lN (uI gn))), (3, .int (nI (cnt om al k))), (0, .ref d), (1, .int (nI k)), (2, .int (nI (uI gn)))]) hx hb d_D_grow_98 hl (by decide) rfl (fun ls hl => ?_)
            refine lp_grow ⟨Nat.zero_le _, Nat.zero_le _⟩ k (uI gn) (hs5 k) hle2 hC (Nat.le_of_ble_eq_true rfl) (Nat.le_of_ble_eq_true rfl) (fun f2 ho2 hi2 H locs ls hg2 he2 hw hl => ?_) (uI gn + 1) 0 f1 ho9 hi9 _ _ _ (Nat.zero_le _) (by omega) (mod_om hg1 k) Ext.rf hw (lv_sub hl [0, 3, 4, 5, 2] rfl)
            refine lv_iload_n hx hb d_D_grow_121 rfl (lv_at hl 0 rfl) ?_
            exact pg_iret hC.1 hw (⟨0, tg, he1.tr he2, Or.inr ⟨rfl, k, hkn, rfl, lim, hlim, Or.inr ⟨hle1, hle2, rfl, mst, ow, ix, bb, cpy, gb, hm9, ho2, hi2, hc9, hg2⟩⟩⟩) d_D_grow_122
          · refine lv_iconst (v := (-1)) hx hb d_D_grow_95 (by decide) ?_
            exact pg_iret hC.1 hw (⟨0, tg, he1, Or.inr ⟨rfl, k, hkn, rfl, lim, hlim, Or.inl ⟨fun h => c5 (by rw [lg_cmp_le]; exact (pk_lLE (b := 16) (by omega) (by omega)).mpr h.2), rfl, ⟨mst, ow, ix, bb, cpy, gb, hm9, ho9, hi9, hc9, hg1⟩⟩⟩⟩) d_D_grow_96
  · refine lv_if_eq (tgt := 13) hx hb d_D_grow_6 (by decide) (fun c0 => ?_) (fun c0 => (c0 rfl).elim)
    refine lv_iconst (v := 1) hx hb d_D_grow_13 (by decide) ?_
    refine put_D hC hw hdL hfd 0 (by decide) k_fl_D_28 rfl rfl rfl (Nat.le_of_ble_eq_true rfl) d_D_grow_14 (fun H locs hw => ?_)
    obtain ⟨f1, hf1⟩ : ∃ F, F = va_up f d (.inr (3, [.int 1, .int (nI nm), .ref mst, .int (nI al), .ref ow, .ref ix, .ref bb, .ref cpy])) := ⟨_, rfl⟩
    have hw := pw_as (f' := f1) hw rfl hf1.symm
    obtain ⟨hg1, he1⟩ := mod_th hg 1
    rw [← hf1] at hg1 he1
    obtain ⟨⟨hdL1, htd1, hfd1⟩, ⟨hmL1, htm1, hfm1⟩, ⟨hoL1, hto1, hfo1⟩, ⟨hiL1, hti1, hfi1⟩, ⟨hbL1, htb1, hfb1⟩, ⟨hcL1, htc1, hfc1⟩, hk11, hk21, hk31⟩ := id hg1
    refine lv_aload_n hx hb d_D_grow_17 rfl (lv_at hl 0 rfl) ?_
    refine get_D hC hw hdL1 hfd1 0 (by decide) k_fl_D_28 rfl d_D_grow_18 ?_
    refine lv_if_le (tgt := 26) hx hb d_D_grow_21 (by decide) (fun c1 => ((by decide : ¬ (1 : Int32) ≤ 0) c1).elim) (fun c1 => ?_)
    refine lv_iconst (v := 0) hx hb d_D_grow_24 (by decide) ?_
    exact pg_iret hC.1 hw (⟨1, tg, he1, Or.inl ⟨rfl, hno, ⟨mst, ow, ix, bb, cpy, gb, hm9, ho9, hi9, hc9, hg1⟩⟩⟩) d_D_grow_25
set_option maxHeartbeats 4000000 in
set_option maxRecDepth 100000 in
theorem c_D_init (l : Launch) (D : va_G) (kc : Nat → ClassId) (L : List Nat) (f : Nat → va_E) (sz : Nat) (d : Nat) (tg : Nat → Nat × Nat) (mo : Nat → Int32) (om : Nat → Nat) (bs : Nat → Nat → Nat) (hd9 : d ∈ L) (hed : f d = .inr (3, [.int 0, .int 0, .null, .int 0, .null, .null, .null, .null])) : Met l y_D_init w_D_init ({ frames := 1, cells := 5, slots := 5176, locals := 12 }) (PP D kc L f sz [.ref d]) (Qv D L f sz (fun u => ∃ tg', modP kc u.1 u.2 tg' d 0 0 mo om 0 bs ∧ (∀ a, a ∈ L → a ∈ u.1) ∧ (∀ a, a ∈ L → a ≠ d → u.2 a = f a ∧ tg' a = tg a) ∧ ∀ a, a ∈ u.1 → a ∉ L → (tg' a).1 = 200)) 5 5176 (pA L f sz) := by
  refine kx_met (by decide) (Nat.le_of_ble_eq_true rfl) ?_
  intro p e s m below meth c hC hnm hw hsz ls hl
  subst hsz
  have hl : lv_has ls 1 [(0, .ref d)] := hl
  obtain ⟨⟨⟨hx, hb, hml, hown, hts⟩, hret9, hlocks⟩, hK, hE, hA⟩ := id hC
  refine lv_aload_n hx hb d_D_init_0 rfl (lv_at hl 0 rfl) ?_
  refine callO hC hw hl.1 k_ml_D_1 d_D_init_1 (Nat.le_of_ble_eq_true rfl) (Nat.le_of_ble_eq_true rfl) ?_
  refine lv_aload_n hx hb d_D_init_4 rfl (lv_at hl 0 rfl) ?_
  refine lv_bipush (v := 24) hx hb d_D_init_5 (by decide) ?_
  refine tp_i (v := nI 24) (rfl) ?_
  refine newI hC hw (gg_of (by decide +kernel) (by decide +kernel)) (by decide) (Nat.le_of_ble_eq_true rfl) (Nat.le_of_ble_eq_true rfl) d_D_init_7 (fun mst H hmst hw => ?_)
  have ndmst : d ≠ mst := ne_in hd9 hmst
  refine putF_D hC hw hnm rfl (mem_l hd9) ((va_up_ne _ _ ndmst).trans hed) 2 (by decide) k_fl_D_9 rfl rfl rfl rfl (Nat.le_of_ble_eq_true rfl) d_D_init_9 (fun H locs hw => ?_)
  obtain ⟨f1, hf1⟩ : ∃ F, F = va_up (va_up f mst (.inl (kc 3, 24, .inl (fun _ => 0)))) d (.inr (3, [.int 0, .int 0, .ref mst, .int 0, .null, .null, .null, .null])) := ⟨_, rfl⟩
  have hw := pw_as (f' := f1) hw rfl hf1.symm
  have he1 : f1 d = .inr (3, [.int 0, .int 0, .ref mst, .int 0, .null, .null, .null, .null]) := by rw [hf1]; exact va_up_self _ _ _
  have c1mst : f1 mst = .inl (kc 3, 24, .inl (fun _ => 0)) := by rw [hf1, va_up_ne _ _ (Ne.symm ndmst)]; exact va_up_self _ _ _
  have k1 : ∀ a, a ≠ d → a ≠ mst → f1 a = f a := fun a h1 h2 => by rw [hf1, va_up_ne _ _ h1, va_up_ne _ _ h2]
  refine lv_aload_n hx hb d_D_init_12 rfl (lv_at hl 0 rfl) ?_
  refine lv_bipush (v := 16) hx hb d_D_init_13 (by decide) ?_
  refine tp_i (v := nI 16) (rfl) ?_
  refine newI hC hw (gg_of (by decide +kernel) (by decide +kernel)) (by decide) (Nat.le_of_ble_eq_true rfl) (Nat.le_of_ble_eq_true rfl) d_D_init_15 (fun ow H how hw => ?_)
  have ndow : d ≠ ow := ne_in (mem_l hd9) how
  have nmstow : mst ≠ ow := ne_in mem_r how
  refine putF_D hC hw hnm rfl (mem_l (mem_l hd9)) ((va_up_ne _ _ ndow).trans he1) 4 (by decide) k_fl_D_13 rfl rfl rfl rfl (Nat.le_of_ble_eq_true rfl) d_D_init_17 (fun H locs hw => ?_)
  obtain ⟨f2, hf2⟩ : ∃ F, F = va_up (va_up f1 ow (.inl (kc 3, 16, .inl (fun _ => 0)))) d (.inr (3, [.int 0, .int 0, .ref mst, .int 0, .ref ow, .null, .null, .null])) := ⟨_, rfl⟩
  have hw := pw_as (f' := f2) hw rfl hf2.symm
  have he2 : f2 d = .inr (3, [.int 0, .int 0, .ref mst, .int 0, .ref ow, .null, .null, .null]) := by rw [hf2]; exact va_up_self _ _ _
  have c2ow : f2 ow = .inl (kc 3, 16, .inl (fun _ => 0)) := by rw [hf2, va_up_ne _ _ (Ne.symm ndow)]; exact va_up_self _ _ _
  have c2mst := (show f2 mst = f1 mst by rw [hf2, va_up_ne _ _ (Ne.symm ndmst), va_up_ne _ _ nmstow]).trans c1mst
  have k2 : ∀ a, a ≠ d → a ≠ ow → f2 a = f1 a := fun a h1 h2 => by rw [hf2, va_up_ne _ _ h1, va_up_ne _ _ h2]
  refine lv_aload_n hx hb d_D_init_20 rfl (lv_at hl 0 rfl) ?_
  refine lv_bipush (v := 16) hx hb d_D_init_21 (by decide) ?_
  refine tp_i (v := nI 16) (rfl) ?_
  refine newI hC hw (gg_of (by decide +kernel) (by decide +kernel)) (by decide) (Nat.le_of_ble_eq_true rfl) (Nat.le_of_ble_eq_true rfl) d_D_init_23 (fun ix H hix hw => ?_)
  have ndix : d ≠ ix := ne_in (mem_l (mem_l hd9)) hix
  have nmstix : mst ≠ ix := ne_in (mem_l mem_r) hix
  have nowix : ow ≠ ix := ne_in mem_r hix
  refine putF_D hC hw hnm rfl (mem_l (mem_l (mem_l hd9))) ((va_up_ne _ _ ndix).trans he2) 5 (by decide) k_fl_D_16 rfl rfl rfl rfl (Nat.le_of_ble_eq_true rfl) d_D_init_25 (fun H locs hw => ?_)
  obtain ⟨f3, hf3⟩ : ∃ F, F = va_up (va_up f2 ix (.inl (kc 3, 16, .inl (fun _ => 0)))) d (.inr (3, [.int 0, .int 0, .ref mst, .int 0, .ref ow, .ref ix, .null, .null])) := ⟨_, rfl⟩
  have hw := pw_as (f' := f3) hw rfl hf3.symm
  have he3 : f3 d = .inr (3, [.int 0, .int 0, .ref mst, .int 0, .ref ow, .ref ix, .null, .null]) := by rw [hf3]; exact va_up_self _ _ _
  have c3ix : f3 ix = .inl (kc 3, 16, .inl (fun _ => 0)) := by rw [hf3, va_up_ne _ _ (Ne.symm ndix)]; exact va_up_self _ _ _
  have c3mst := (show f3 mst = f2 mst by rw [hf3, va_up_ne _ _ (Ne.symm ndmst), va_up_ne _ _ nmstix]).trans c2mst
  have c3ow := (show f3 ow = f2 ow by rw [hf3, va_up_ne _ _ (Ne.symm ndow), va_up_ne _ _ nowix]).trans c2ow
  have k3 : ∀ a, a ≠ d → a ≠ ix → f3 a = f2 a := fun a h1 h2 => by rw [hf3, va_up_ne _ _ h1, va_up_ne _ _ h2]
  refine lv_aload_n hx hb d_D_init_28 rfl (lv_at hl 0 rfl) ?_
  refine lv_sipush (v := 1024) hx hb d_D_init_29 (by decide) ?_
  refine tp_i (v := nI 1024) (rfl) ?_
  refine newG hC hw k_cl_D_19 (by decide) (Nat.le_of_ble_eq_true rfl) (Nat.le_of_ble_eq_true rfl) d_D_init_32 (fun bb H hbb hw => ?_)
  have ndbb : d ≠ bb := ne_in (mem_l (mem_l (mem_l hd9))) hbb
  have nmstbb : mst ≠ bb := ne_in (mem_l (mem_l mem_r)) hbb
  have nowbb : ow ≠ bb := ne_in (mem_l mem_r) hbb
  have nixbb : ix ≠ bb := ne_in mem_r hbb
  refine putF_D hC hw hnm rfl (mem_l (mem_l (mem_l (mem_l hd9)))) ((va_up_ne _ _ ndbb).trans he3) 6 (by decide) k_fl_D_21 rfl rfl rfl rfl (Nat.le_of_ble_eq_true rfl) d_D_init_35 (fun H locs hw => ?_)
  obtain ⟨f4, hf4⟩ : ∃ F, F = va_up (va_up f3 bb (.inl (kc 4, 1024, .inr (.inr (.inr (.inr (fun _ => none))))))) d (.inr (3, [.int 0, .int 0, .ref mst, .int 0, .ref ow, .ref ix, .ref bb, .null])) := ⟨_, rfl⟩
  have hw := pw_as (f' := f4) hw rfl hf4.symm
  have he4 : f4 d = .inr (3, [.int 0, .int 0, .ref mst, .int 0, .ref ow, .ref ix, .ref bb, .null]) := by rw [hf4]; exact va_up_self _ _ _
  have c4bb : f4 bb = .inl (kc 4, 1024, .inr (.inr (.inr (.inr (fun _ => none))))) := by rw [hf4, va_up_ne _ _ (Ne.symm ndbb)]; exact va_up_self _ _ _
  have c4mst := (show f4 mst = f3 mst by rw [hf4, va_up_ne _ _ (Ne.symm ndmst), va_up_ne _ _ nmstbb]).trans c3mst
  have c4ow := (show f4 ow = f3 ow by rw [hf4, va_up_ne _ _ (Ne.symm ndow), va_up_ne _ _ nowbb]).trans c3ow
  have c4ix := (show f4 ix = f3 ix by rw [hf4, va_up_ne _ _ (Ne.symm ndix), va_up_ne _ _ nixbb]).trans c3ix
  have k4 : ∀ a, a ≠ d → a ≠ bb → f4 a = f3 a := fun a h1 h2 => by rw [hf4, va_up_ne _ _ h1, va_up_ne _ _ h2]
  refine lv_aload_n hx hb d_D_init_38 rfl (lv_at hl 0 rfl) ?_
  refine lv_sipush (v := 4096) hx hb d_D_init_39 (by decide) ?_
  refine tp_i (v := nI 4096) (rfl) ?_
  refine newI hC hw (gg_of (by decide +kernel) (by decide +kernel)) (by decide) (Nat.le_of_ble_eq_true rfl) (Nat.le_of_ble_eq_true rfl) d_D_init_42 (fun cpy H hcpy hw => ?_)
  have ndcpy : d ≠ cpy := ne_in (mem_l (mem_l (mem_l (mem_l hd9)))) hcpy
  have nmstcpy : mst ≠ cpy := ne_in (mem_l (mem_l (mem_l mem_r))) hcpy
  have nowcpy : ow ≠ cpy := ne_in (mem_l (mem_l mem_r)) hcpy
  have nixcpy : ix ≠ cpy := ne_in (mem_l mem_r) hcpy
  have nbbcpy : bb ≠ cpy := ne_in mem_r hcpy
  refine putF_D hC hw hnm rfl (mem_l (mem_l (mem_l (mem_l (mem_l hd9))))) ((va_up_ne _ _ ndcpy).trans he4) 7 (by decide) k_fl_D_25 rfl rfl rfl rfl (Nat.le_of_ble_eq_true rfl) d_D_init_44 (fun H locs hw => ?_)
  obtain ⟨f5, hf5⟩ : ∃ F, F = va_up (va_up f4 cpy (.inl (kc 3, 4096, .inl (fun _ => 0)))) d (.inr (3, [.int 0, .int 0, .ref mst, .int 0, .ref ow, .ref ix, .ref bb, .ref cpy])) := ⟨_, rfl⟩
  have hw := pw_as (f' := f5) hw rfl hf5.symm
  have he5 : f5 d = .inr (3, [.int 0, .int 0, .ref mst, .int 0, .ref ow, .ref ix, .ref bb, .ref cpy]) := by rw [hf5]; exact va_up_self _ _ _
  have c5cpy : f5 cpy = .inl (kc 3, 4096, .inl (fun _ => 0)) := by rw [hf5, va_up_ne _ _ (Ne.symm ndcpy)]; exact va_up_self _ _ _
  have c5mst := (show f5 mst = f4 mst by rw [hf5, va_up_ne _ _ (Ne.symm ndmst), va_up_ne _ _ nmstcpy]).trans c4mst
  have c5ow := (show f5 ow = f4 ow by rw [hf5, va_up_ne _ _ (Ne.symm ndow), va_up_ne _ _ nowcpy]).trans c4ow
  have c5ix := (show f5 ix = f4 ix by rw [hf5, va_up_ne _ _ (Ne.symm ndix), va_up_ne _ _ nixcpy]).trans c4ix
  have c5bb := (show f5 bb = f4 bb by rw [hf5, va_up_ne _ _ (Ne.symm ndbb), va_up_ne _ _ nbbcpy]).trans c4bb
  have k5 : ∀ a, a ≠ d → a ≠ cpy → f5 a = f4 a := fun a h1 h2 => by rw [hf5, va_up_ne _ _ h1, va_up_ne _ _ h2]
  obtain ⟨t3, ht3⟩ : ∃ T, T = va_up (va_up (va_up (va_up (va_up (va_up tg d (200, 0)) mst (200, 1)) ow (200, 2)) ix (200, 3)) bb (200, 4)) cpy (200, 5) := ⟨_, rfl⟩
  have td : t3 d = (200, 0) := by rw [ht3, va_up_ne _ _ ndcpy, va_up_ne _ _ ndbb, va_up_ne _ _ ndix, va_up_ne _ _ ndow, va_up_ne _ _ ndmst, va_up_self]
  have tmst : t3 mst = (200, 1) := by rw [ht3, va_up_ne _ _ nmstcpy, va_up_ne _ _ nmstbb, va_up_ne _ _ nmstix, va_up_ne _ _ nmstow, va_up_self]
  have tow : t3 ow = (200, 2) := by rw [ht3, va_up_ne _ _ nowcpy, va_up_ne _ _ nowbb, va_up_ne _ _ nowix, va_up_self]
  have tix : t3 ix = (200, 3) := by rw [ht3, va_up_ne _ _ nixcpy, va_up_ne _ _ nixbb, va_up_self]
  have tbb : t3 bb = (200, 4) := by rw [ht3, va_up_ne _ _ nbbcpy, va_up_self]
  have tcpy : t3 cpy = (200, 5) := by rw [ht3, va_up_self]
  have kk9 : ∀ a, a ∈ L → a ≠ d → f5 a = f a ∧ t3 a = tg a := fun a ha hne => by
    have e1 : a ≠ mst := ne_in ha hmst
    have e2 : a ≠ ow := ne_in (mem_l ha) how
    have e3 : a ≠ ix := ne_in (mem_l (mem_l ha)) hix
    have e4 : a ≠ bb := ne_in (mem_l (mem_l (mem_l ha))) hbb
    have e5 : a ≠ cpy := ne_in (mem_l (mem_l (mem_l (mem_l ha)))) hcpy
    exact ⟨by rw [k5 a hne e5, k4 a hne e4, k3 a hne e3, k2 a hne e2, k1 a hne e1], by rw [ht3, va_up_ne _ _ e5, va_up_ne _ _ e4, va_up_ne _ _ e3, va_up_ne _ _ e2, va_up_ne _ _ e1, va_up_ne _ _ hne]⟩
  have nn9 : ∀ a, a ∈ (((((L ++ [mst]) ++ [ow]) ++ [ix]) ++ [bb]) ++ [cpy]) → a ∉ L → (t3 a).1 = 200 := fun a ha hn => by
    simp only [List.mem_append, List.mem_singleton] at ha
    rcases ha with ((((h | h) | h) | h) | h) | h
    · exact absurd h hn
    · rw [h, tmst]
    · rw [h, tow]
    · rw [h, tix]
    · rw [h, tbb]
    · rw [h, tcpy]
  have hmg : modG kc (((((L ++ [mst]) ++ [ow]) ++ [ix]) ++ [bb]) ++ [cpy]) f5 t3 d mst ow ix bb cpy (fun _ => none) (fun _ => 0) (fun _ => 0) (fun _ => 0) (fun _ => 0) 0 0 mo om 0 bs := ⟨⟨(mem_l (mem_l (mem_l (mem_l (mem_l hd9))))), td, he5⟩, ⟨(mem_l (mem_l (mem_l (mem_l mem_r)))), tmst, c5mst⟩, ⟨(mem_l (mem_l (mem_l mem_r))), tow, c5ow⟩, ⟨(mem_l (mem_l mem_r)), tix, c5ix⟩, ⟨(mem_l mem_r), tbb, c5bb⟩, ⟨mem_r, tcpy, c5cpy⟩, fun k hk => absurd hk (Nat.not_lt_zero k), fun k hk => absurd hk (Nat.not_lt_zero k), fun R _ => Or.inl ⟨rfl, fun j _ => by unfold md; rw [if_neg (Nat.not_lt_zero _)]⟩⟩
  refine W.widen (k := 5) (n := 5176) (by omega) (by omega) ?_
  exact pg_vret hC.1 hw (⟨t3, ⟨mst, ow, ix, bb, cpy, _, _, _, _, _, hmg⟩, fun a ha => mem_l (mem_l (mem_l (mem_l (mem_l ha)))), kk9, nn9⟩) d_D_init_47
