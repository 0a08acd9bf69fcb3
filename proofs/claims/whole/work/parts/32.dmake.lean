/-! The reference: make, grow, its constructor -/
theorem appN_app (om : Nat → Nat) (al m i : Nat) : appN (appN om al m) (al + i) m = appN om al m := by
  funext k
  unfold appN
  by_cases h : k < al
  · rw [if_pos (by omega), if_pos h]
  · rw [if_neg h]
    by_cases h2 : k < al + i
    · rw [if_pos h2]
    · rw [if_neg h2]
theorem mod_om {kc : Nat → ClassId} {L : List Nat} {f : Nat → va_E} {tg : Nat → Nat × Nat} {d mst ow ix bb cpy : Nat} {gb : Nat → Option Nat} {hm ho hi hc : Nat → Int32} {th : Int32} {n : Nat} {mo : Nat → Int32} {om : Nat → Nat} {al : Nat} {bs : Nat → Nat → Nat} (h : modG kc L f tg d mst ow ix bb cpy gb hm ho hi hc th n mo om al bs) (m : Nat) : modG kc L f tg d mst ow ix bb cpy gb hm ho hi hc th n mo (appN om al m) al bs := by
  obtain ⟨⟨a1, a2, a3⟩, ⟨b1, b2, b3⟩, ⟨c1, c2, c3⟩, ⟨d1, d2, d3⟩, ⟨e1, e2, e3⟩, ⟨g1, g2, g3⟩, k1, k2, k3⟩ := id h
  have e : ∀ k, k < al → appN om al m k = om k := fun k hk => by unfold appN; rw [if_pos hk]
  have ec : ∀ k, k ≤ al → ∀ q, cnt (appN om al m) k q = cnt om k q := fun k hk q => cnt_congr q k (fun z hz => e z (by omega))
  refine (mod_upd (f' := f) h a3 b3 c3 d3 g3 (fun _ _ _ _ _ _ _ => rfl) k1 (fun k hk => by rw [e k hk, ec k (by omega)]; exact k2 k hk) (fun R hR j hj => ?_)).1
  unfold md
  by_cases q : R / 64 < al
  · rw [if_pos q, if_pos q, e _ q, ec _ (by omega)]
  · rw [if_neg q, if_neg q]
theorem u64_neg {x : Int32} (h : x < 0) : x.toInt64 + 4294967296 = lN (uI x) := by
  have hx : x.toInt < (0 : Int32).toInt := Int32.lt_iff_toInt_lt.mp h
  have h0 : (0 : Int32).toInt = 0 := by decide
  apply Int64.toBitVec_inj.1
  apply BitVec.eq_of_toInt_eq
  rw [Int64.toBitVec_add, BitVec.toInt_add]
  show (x.toInt64.toInt + (4294967296 : Int)).bmod (2 ^ 64) = (lN (uI x)).toInt
  rw [Int32.toInt_toInt64, pk_lT (Nat.lt_trans (uI_lt x) (by decide))]
  have h1 : x.toInt = (uI x : Int) - 4294967296 := by
    have h2 : x.toInt = x.toBitVec.toInt := rfl
    rw [h2, BitVec.toInt_eq_toNat_cond] at hx
    rw [h2, BitVec.toInt_eq_toNat_cond]
    by_cases q : 2 * x.toBitVec.toNat < 2 ^ 32
    · rw [if_pos q] at hx; omega
    · rw [if_neg q]; rfl
  have hu := uI_lt x
  rw [h1, show ((uI x : Int) - 4294967296 + 4294967296) = (uI x : Int) by omega]
  exact Int.bmod_eq_of_le (by omega) (by omega)
theorem u64_pos {x : Int32} (h : ¬ x < 0) : x.toInt64 = lN (uI x) := by
  obtain ⟨j, hj, rfl⟩ := nI_of h
  rw [nI_l hj, uI_nI (by omega)]
set_option maxHeartbeats 4000000 in
set_option maxRecDepth 100000 in
theorem lp_make {p : Program} {l : Launch} {e : Env} {R : Room} {s : State} {m : MethodId} {args : Array Value} {below : List Frame} {meth : Method} {c : Code} {Q : State → Prop} {A : Nat → Prop} {D : va_G} {kc : Nat → ClassId} {c0 : Cond} {ret : Option FieldType} {L : List Nat} {f : Nat → va_E} {d mst ow ix bb cpy : Nat} {gb : Nat → Option Nat} {hm9 hc9 : Nat → Int32} {tg : Nat → Nat × Nat} {th : Int32} {nm : Nat} {mo : Nat → Int32} {om : Nat → Nat} {al : Nat} {bs : Nat → Nat → Nat} {cells slots : Nat} (hcs : cells ≤ R.cells ∧ slots ≤ R.slots) (lz : Nat) (most : Int32) (hz0 : cnt om al nm = 0) (hbz : ∀ j, bs nm j = 0) (hlz : al + lz ≤ 16) (hC : Kx p m c b_D_make 5 s args c0 R_D meth ret D kc A) (hRf : 1 ≤ R.frames) (hRl : 22 ≤ R.locals)
    (kont : ∀ (f' : Nat → va_E) (ho' hi' : Nat → Int32) (H : Heap) (locs : List Loc) (ls : Array Slot), modG kc L f' tg d mst ow ix bb cpy gb hm9 ho' hi' hc9 th nm mo (appN om al nm) (al + lz) bs → Ext SD L f tg (L, f') tg → pw D Cls A s.heap H locs L f' → lv_has ls 5 [(0, .ref d), (2, .int most)] → W p l e R s m args below meth c H locs cells slots Q (F0 m 107 ls [])) :
    ∀ (n : Nat) (i : Nat) (f' : Nat → va_E) (ho' hi' : Nat → Int32) (H : Heap) (locs : List Loc) (ls : Array Slot), i ≤ lz → lz + 1 ≤ i + n → modG kc L f' tg d mst ow ix bb cpy gb hm9 ho' hi' hc9 th nm mo (appN om al nm) (al + i) bs → Ext SD L f tg (L, f') tg → pw D Cls A s.heap H locs L f' → lv_has ls 5 [(4, .int (nI i)), (0, .ref d), (1, .int (nI lz)), (2, .int most)] → W p l e R s m args below meth c H locs cells slots Q (F0 m 85 ls []) := by
  obtain ⟨⟨⟨hx, hb, hml, hown, hts⟩, hret9, hlocks⟩, hK, hE, hA⟩ := id hC
  intro n
  induction n with
  | zero => intro i f' ho' hi' H locs ls hi hin hm he hw hl; exact absurd hin (by omega)
  | succ n ih =>
    intro i f' ho' hi' H locs ls hi hin hm he hw hl
    obtain ⟨⟨hdL, htd, hfd⟩, -⟩ := id hm
    refine lv_iload hx hb d_D_make_85 (lv_at hl 0 rfl) ?_
    refine lv_iload_n hx hb d_D_make_87 rfl (lv_at hl 2 rfl) ?_
    refine lv_icmp_ge (tgt := 107) hx hb d_D_make_88 (by decide) (fun c1 => ?_) (fun c1 => ?_)
    · have e : i = lz := by
        rcases Nat.lt_or_ge i lz with q | q
        · exact absurd c1 (nI_ge q (by omega))
        · omega
      subst e
      exact kont f' ho' hi' H locs ls hm he hw (lv_sub hl [1, 3] rfl)
    · have hlt : i < lz := by
        rcases Nat.lt_or_ge i lz with q | q
        · exact q
        · exact absurd (nI_le q (by omega)) c1
      have hci : cnt (appN om al nm) (al + i) nm = i := by rw [cnt_app, if_pos rfl, hz0]; omega
      refine lv_aload_n hx hb d_D_make_91 rfl (lv_at hl 1 rfl) ?_
      refine lv_aload_n hx hb d_D_make_92 rfl (lv_at hl 1 rfl) ?_
      refine get_D hC hw hdL hfd 1 (by decide) k_fl_D_32 rfl d_D_make_93 ?_
      refine lv_iload hx hb d_D_make_96 (lv_at hl 0 rfl) ?_
      refine tp_i (v := nI (cnt (appN om al nm) (al + i) nm)) (by rw [hci]) ?_
      refine callVv (As := [.int (nI nm), .int (nI (cnt (appN om al nm) (al + i) nm))]) (n9 := 2) hC hw (c_D_add l D kc _ _ _ d mst ow ix bb cpy gb hm9 ho' hi' hc9 tg th nm mo (appN om al nm) (al + i) bs hm nm (by omega) (fun j _ => hbz j)) k_co_D_add k_ml_D_47 k_im_D_add k_se_D_add k_in_D rfl rfl (by decide +kernel) rfl ⟨Nat.le_trans (Nat.le_of_ble_eq_true rfl) hRf, Nat.le_trans (Nat.le_of_ble_eq_true rfl) hRl⟩ hdL hfd rfl hl.1 rfl (Nat.le_of_ble_eq_true rfl) d_D_make_98 ⟨hcs.1, hcs.2⟩ (fun u H locs hp hw => ?_)
      obtain ⟨ho2, hi2, hu2, hm2, he2⟩ := hp
      obtain ⟨f2, rfl⟩ := hu2
      dsimp only at hw hm2 he2
      rw [appN_app, Nat.add_assoc] at hm2
      refine lv_iinc (v := nI (i + 1)) (lv' := [(4, .int (nI (i + 1))), (0, .ref d), (1, .int (nI lz)), (2, .int most)]) hx hb d_D_make_101 hl (k := 0) rfl (nI_1 i) (by decide) rfl (fun ls hl => ?_)
      refine lv_goto (tgt := 85) hx hb d_D_make_104 (by decide) ?_
      exact ih (i + 1) f2 ho2 hi2 _ _ _ (by omega) (by omega) hm2 (he.tr he2) hw (lv_sub hl [0, 1, 2, 3] rfl)
set_option maxHeartbeats 4000000 in
set_option maxRecDepth 100000 in
theorem c_D_make (l : Launch) (D : va_G) (kc : Nat → ClassId) (L : List Nat) (f : Nat → va_E) (sz : Nat) (d mst ow ix bb cpy : Nat) (gb : Nat → Option Nat) (hm9 ho9 hi9 hc9 : Nat → Int32) (tg : Nat → Nat × Nat) (th : Int32) (nm : Nat) (mo : Nat → Int32) (om : Nat → Nat) (al : Nat) (bs : Nat → Nat → Nat) (hg : modG kc L f tg d mst ow ix bb cpy gb hm9 ho9 hi9 hc9 th nm mo om al bs) (hs : stOK nm mo om al bs) (least most : Int32) : Met l y_D_make w_D_make ({ frames := 1, cells := 0, slots := 0, locals := 22 }) (PP D kc L f sz [.ref d, .int least, .int most]) (Qi D L f sz (fun r u => ∃ t9 tg', Ext SD L f tg u tg' ∧ ((t9 = 1 ∧ ¬ okM least most ∧ modP kc u.1 u.2 tg' d t9 nm mo om al bs) ∨ (t9 = 2 ∧ okM least most ∧ nm = 24 ∧ modP kc u.1 u.2 tg' d t9 nm mo om al bs) ∨ (t9 = 3 ∧ okM least most ∧ nm < 24 ∧ ¬ (al + uI least ≤ 16) ∧ modP kc u.1 u.2 tg' d t9 nm mo om al bs) ∨ (t9 = 0 ∧ okM least most ∧ nm < 24 ∧ al + uI least ≤ 16 ∧ r = nI nm ∧ modP kc u.1 u.2 tg' d t9 (nm + 1) (va_up mo nm most) (appN om al nm) (al + uI least) bs)))) 0 0 (pA L f sz) := by
  refine kx_met (by decide) (Nat.le_of_ble_eq_true rfl) ?_
  intro p e s m below meth c hC hnm hw hsz ls hl
  subst hsz
  have hl : lv_has ls 5 [(0, .ref d), (1, .int least), (2, .int most)] := hl
  obtain ⟨⟨⟨hx, hb, hml, hown, hts⟩, hret9, hlocks⟩, hK, hE, hA⟩ := id hC
  obtain ⟨⟨hdL, htd, hfd⟩, ⟨hmL, htm, hfm⟩, ⟨hoL, hto, hfo⟩, ⟨hiL, hti, hfi⟩, ⟨hbL, htb, hfb⟩, ⟨hcL, htc, hfc⟩, hk1, hk2, hk3⟩ := id hg
  obtain ⟨hs1, hs2, hs3, hs4, hs5, hs6⟩ := id hs
  refine lv_iload_n hx hb d_D_make_0 rfl (lv_at hl 1 rfl) ?_
  refine lv_if_lt (tgt := 30) hx hb d_D_make_1 (by decide) (fun c1 => ?_) (fun c1 => ?_)
  · refine lv_iconst (v := 0) hx hb d_D_make_30 (by decide) ?_
    refine lv_istore_n (lv' := [(3, .int 0), (0, .ref d), (1, .int least), (2, .int most)]) hx hb d_D_make_31 rfl hl (by decide) rfl (fun ls hl => ?_)
    refine lv_aload_n hx hb d_D_make_32 rfl (lv_at hl 1 rfl) ?_
    refine lv_iload_n hx hb d_D_make_33 rfl (lv_at hl 0 rfl) ?_
    refine lv_if_ne (tgt := 41) hx hb d_D_make_34 (by decide) (fun c9 => (c9 rfl).elim) (fun c9 => ?_)
    refine lv_iconst (v := 1) hx hb d_D_make_37 (by decide) ?_
    refine lv_goto (tgt := 70) hx hb d_D_make_38 (by decide) ?_
    refine put_D hC hw hdL hfd 0 (by decide) k_fl_D_28 rfl rfl rfl (Nat.le_of_ble_eq_true rfl) d_D_make_70 (fun H locs hw => ?_)
    obtain ⟨f1, hf1⟩ : ∃ F, F = va_up f d (.inr (3, [.int 1, .int (nI nm), .ref mst, .int (nI al), .ref ow, .ref ix, .ref bb, .ref cpy])) := ⟨_, rfl⟩
    have hw := pw_as (f' := f1) hw rfl hf1.symm
    obtain ⟨hg1, he1⟩ := mod_th hg 1
    rw [← hf1] at hg1 he1
    obtain ⟨⟨hdL1, htd1, hfd1⟩, ⟨hmL1, htm1, hfm1⟩, ⟨hoL1, hto1, hfo1⟩, ⟨hiL1, hti1, hfi1⟩, ⟨hbL1, htb1, hfb1⟩, ⟨hcL1, htc1, hfc1⟩, hk11, hk21, hk31⟩ := id hg1
    refine lv_aload_n hx hb d_D_make_73 rfl (lv_at hl 1 rfl) ?_
    refine get_D hC hw hdL1 hfd1 0 (by decide) k_fl_D_28 rfl d_D_make_74 ?_
    refine lv_if_le (tgt := 82) hx hb d_D_make_77 (by decide) (fun c8 => ((by decide : ¬ (1 : Int32) ≤ 0) c8).elim) (fun c8 => ?_)
    refine lv_iconst (v := 0) hx hb d_D_make_80 (by decide) ?_
    exact pg_iret hC.1 hw (⟨1, tg, he1, Or.inl ⟨rfl, fun h => h.1.1 c1, ⟨mst, ow, ix, bb, cpy, gb, hm9, ho9, hi9, hc9, hg1⟩⟩⟩) d_D_make_81
  · refine lv_iload_n hx hb d_D_make_4 rfl (lv_at hl 1 rfl) ?_
    refine lv_ldc (v := 65536) hx hb hown (hts _ (gg_mem k_cn_D_46)) d_D_make_5 ?_
    refine lv_icmp_gt (tgt := 30) hx hb d_D_make_7 (by decide) (fun c2 => ?_) (fun c2 => ?_)
    · refine lv_iconst (v := 0) hx hb d_D_make_30 (by decide) ?_
      refine lv_istore_n (lv' := [(3, .int 0), (0, .ref d), (1, .int least), (2, .int most)]) hx hb d_D_make_31 rfl hl (by decide) rfl (fun ls hl => ?_)
      refine lv_aload_n hx hb d_D_make_32 rfl (lv_at hl 1 rfl) ?_
      refine lv_iload_n hx hb d_D_make_33 rfl (lv_at hl 0 rfl) ?_
      refine lv_if_ne (tgt := 41) hx hb d_D_make_34 (by decide) (fun c9 => (c9 rfl).elim) (fun c9 => ?_)
      refine lv_iconst (v := 1) hx hb d_D_make_37 (by decide) ?_
      refine lv_goto (tgt := 70) hx hb d_D_make_38 (by decide) ?_
      refine put_D hC hw hdL hfd 0 (by decide) k_fl_D_28 rfl rfl rfl (Nat.le_of_ble_eq_true rfl) d_D_make_70 (fun H locs hw => ?_)
      obtain ⟨f1, hf1⟩ : ∃ F, F = va_up f d (.inr (3, [.int 1, .int (nI nm), .ref mst, .int (nI al), .ref ow, .ref ix, .ref bb, .ref cpy])) := ⟨_, rfl⟩
      have hw := pw_as (f' := f1) hw rfl hf1.symm
      obtain ⟨hg1, he1⟩ := mod_th hg 1
      rw [← hf1] at hg1 he1
      obtain ⟨⟨hdL1, htd1, hfd1⟩, ⟨hmL1, htm1, hfm1⟩, ⟨hoL1, hto1, hfo1⟩, ⟨hiL1, hti1, hfi1⟩, ⟨hbL1, htb1, hfb1⟩, ⟨hcL1, htc1, hfc1⟩, hk11, hk21, hk31⟩ := id hg1
      refine lv_aload_n hx hb d_D_make_73 rfl (lv_at hl 1 rfl) ?_
      refine get_D hC hw hdL1 hfd1 0 (by decide) k_fl_D_28 rfl d_D_make_74 ?_
      refine lv_if_le (tgt := 82) hx hb d_D_make_77 (by decide) (fun c8 => ((by decide : ¬ (1 : Int32) ≤ 0) c8).elim) (fun c8 => ?_)
      refine lv_iconst (v := 0) hx hb d_D_make_80 (by decide) ?_
      exact pg_iret hC.1 hw (⟨1, tg, he1, Or.inl ⟨rfl, fun h => Int32.not_lt.mpr h.1.2 c2, ⟨mst, ow, ix, bb, cpy, gb, hm9, ho9, hi9, hc9, hg1⟩⟩⟩) d_D_make_81
    · refine lv_iload_n hx hb d_D_make_10 rfl (lv_at hl 2 rfl) ?_
      refine lv_iconst (v := (-1)) hx hb d_D_make_11 (by decide) ?_
      refine lv_icmp_eq (tgt := 26) hx hb d_D_make_12 (by decide) (fun c3 => ?_) (fun c3 => ?_)
      · have hok : okM least most := ⟨⟨c1, Int32.not_lt.mp c2⟩, Or.inl c3⟩
        obtain ⟨lz, hlz, rfl⟩ : ∃ j, j ≤ 65536 ∧ least = nI j := nI_of2 (M := 65536) (n := 65536) (by decide) c1 (Int32.not_lt.mp c2)
        refine lv_iconst (v := 1) hx hb d_D_make_26 (by decide) ?_
        refine lv_goto (tgt := 31) hx hb d_D_make_27 (by decide) ?_
        refine lv_istore_n (lv' := [(3, .int 1), (0, .ref d), (1, .int (nI lz)), (2, .int most)]) hx hb d_D_make_31 rfl hl (by decide) rfl (fun ls hl => ?_)
        refine lv_aload_n hx hb d_D_make_32 rfl (lv_at hl 1 rfl) ?_
        refine lv_iload_n hx hb d_D_make_33 rfl (lv_at hl 0 rfl) ?_
        refine lv_if_ne (tgt := 41) hx hb d_D_make_34 (by decide) (fun c9 => ?_) (fun c9 => ((by decide : ¬ (1 : Int32) = 0) c9).elim)
        refine lv_aload_n hx hb d_D_make_41 rfl (lv_at hl 1 rfl) ?_
        refine get_D hC hw hdL hfd 1 (by decide) k_fl_D_32 rfl d_D_make_42 ?_
        refine lv_bipush (v := 24) hx hb d_D_make_45 (by decide) ?_
        refine lv_icmp_ne (tgt := 54) hx hb d_D_make_47 (by decide) (fun c6 => ?_) (fun c6 => ?_)
        · have hnm : nm < 24 := by
            rcases Nat.lt_or_ge nm 24 with z | z
            · exact z
            · exact absurd (by rw [show nm = 24 by omega]; rfl) c6
          refine lv_aload_n hx hb d_D_make_54 rfl (lv_at hl 1 rfl) ?_
          refine get_D hC hw hdL hfd 3 (by decide) k_fl_D_35 rfl d_D_make_55 ?_
          refine lv_iload_n hx hb d_D_make_58 rfl (lv_at hl 2 rfl) ?_
          refine lv_iadd hx hb d_D_make_59 ?_
          refine tp_i (v := nI (al + lz)) (nI_add _ _) ?_
          refine lv_bipush (v := 16) hx hb d_D_make_60 (by decide) ?_
          refine lv_icmp_le (tgt := 69) hx hb d_D_make_62 (by decide) (fun c7 => ?_) (fun c7 => ?_)
          · have hsm : al + lz ≤ 16 := (nI_leI (b := 16) (by omega) (by decide)).mp c7
            have hz0 : cnt om al nm = 0 := cnt_zero al (fun j hj => Nat.ne_of_lt (hs3 j hj))
            refine lv_iconst (v := 0) hx hb d_D_make_69 (by decide) ?_
            refine put_D hC hw hdL hfd 0 (by decide) k_fl_D_28 rfl rfl rfl (Nat.le_of_ble_eq_true rfl) d_D_make_70 (fun H locs hw => ?_)
            obtain ⟨f1, hf1⟩ : ∃ F, F = va_up f d (.inr (3, [.int 0, .int (nI nm), .ref mst, .int (nI al), .ref ow, .ref ix, .ref bb, .ref cpy])) := ⟨_, rfl⟩
            have hw := pw_as (f' := f1) hw rfl hf1.symm
            obtain ⟨hg1, he1⟩ := mod_th hg 0
            rw [← hf1] at hg1 he1
            obtain ⟨⟨hdL1, htd1, hfd1⟩, ⟨hmL1, htm1, hfm1⟩, ⟨hoL1, hto1, hfo1⟩, ⟨hiL1, hti1, hfi1⟩, ⟨hbL1, htb1, hfb1⟩, ⟨hcL1, htc1, hfc1⟩, hk11, hk21, hk31⟩ := id hg1
            refine lv_aload_n hx hb d_D_make_73 rfl (lv_at hl 1 rfl) ?_
            refine get_D hC hw hdL1 hfd1 0 (by decide) k_fl_D_28 rfl d_D_make_74 ?_
            refine lv_if_le (tgt := 82) hx hb d_D_make_77 (by decide) (fun c8 => ?_) (fun c8 => (c8 (by decide)).elim)
            refine lv_iconst (v := 0) hx hb d_D_make_82 (by decide) ?_
            refine lv_istore (lv' := [(4, .int 0), (3, .int 1), (0, .ref d), (1, .int (nI lz)), (2, .int most)]) hx hb d_D_make_83 hl (by decide) rfl (fun ls hl => ?_)
            refine lp_make ⟨Nat.zero_le _, Nat.zero_le _⟩ lz most hz0 (fun j => hs5 nm j (by rw [hz0]; omega)) hsm hC (Nat.le_of_ble_eq_true rfl) (Nat.le_of_ble_eq_true rfl) (fun f2 ho2 hi2 H locs ls hg2 he2 hw hl => ?_) (lz + 1) 0 f1 ho9 hi9 _ _ _ (Nat.zero_le _) (by omega) (mod_om hg1 nm) Ext.rf hw (lv_sub hl [0, 2, 3, 4] rfl)
            obtain ⟨⟨hdL2, htd2, hfd2⟩, ⟨hmL2, htm2, hfm2⟩, ⟨hoL2, hto2, hfo2⟩, ⟨hiL2, hti2, hfi2⟩, ⟨hbL2, htb2, hfb2⟩, ⟨hcL2, htc2, hfc2⟩, hk12, hk22, hk32⟩ := id hg2
            refine lv_aload_n hx hb d_D_make_107 rfl (lv_at hl 0 rfl) ?_
            refine get_D hC hw hdL2 hfd2 2 (by decide) k_fl_D_9 rfl d_D_make_108 ?_
            refine lv_aload_n hx hb d_D_make_111 rfl (lv_at hl 0 rfl) ?_
            refine get_D hC hw hdL2 hfd2 1 (by decide) k_fl_D_32 rfl d_D_make_112 ?_
            refine lv_iload_n hx hb d_D_make_115 rfl (lv_at hl 1 rfl) ?_
            refine ast_I hC hw hmL2 hfm2 hnm (by decide) d_D_make_116 (fun H locs hw => ?_)
            have n1 : d ≠ mst := fun e => by rw [e, htm2] at htd2; cases htd2
            obtain ⟨f3, hf3⟩ : ∃ F, F = va_up f2 mst (.inl (kc 3, 24, .inl (upd hm9 nm most))) := ⟨_, rfl⟩
            have hw := pw_as (f' := f3) hw rfl hf3.symm
            have k3 : ∀ a, a ≠ mst → f3 a = f2 a := fun a h => by rw [hf3, va_up_ne _ _ h]
            refine lv_aload_n hx hb d_D_make_117 rfl (lv_at hl 0 rfl) ?_
            refine lv_dup hx hb d_D_make_118 rfl ?_
            refine get_D hC hw hdL2 ((k3 d n1).trans hfd2) 1 (by decide) k_fl_D_32 rfl d_D_make_119 ?_
            refine lv_iconst (v := 1) hx hb d_D_make_122 (by decide) ?_
            refine lv_iadd hx hb d_D_make_123 ?_
            refine tp_i (v := nI (nm + 1)) (nI_1 nm) ?_
            refine put_D hC hw hdL2 ((k3 d n1).trans hfd2) 1 (by decide) k_fl_D_32 rfl rfl rfl (Nat.le_of_ble_eq_true rfl) d_D_make_124 (fun H locs hw => ?_)
            obtain ⟨f4, hf4⟩ : ∃ F, F = va_up f3 d (.inr (3, [.int 0, .int (nI (nm + 1)), .ref mst, .int (nI (al + lz)), .ref ow, .ref ix, .ref bb, .ref cpy])) := ⟨_, rfl⟩
            have hw := pw_as (f' := f4) hw rfl hf4.symm
            have k4 : ∀ a, a ≠ d → f4 a = f3 a := fun a h => by rw [hf4, va_up_ne _ _ h]
            have d4 : f4 d = .inr (3, [.int 0, .int (nI (nm + 1)), .ref mst, .int (nI (al + lz)), .ref ow, .ref ix, .ref bb, .ref cpy]) := by rw [hf4]; exact va_up_self _ _ _
            have ao : ow ≠ d := fun e => by rw [e, htd2] at hto2; cases hto2
            have bo : ow ≠ mst := fun e => by rw [e, htm2] at hto2; cases hto2
            have ai : ix ≠ d := fun e => by rw [e, htd2] at hti2; cases hti2
            have bi : ix ≠ mst := fun e => by rw [e, htm2] at hti2; cases hti2
            have ac : cpy ≠ d := fun e => by rw [e, htd2] at htc2; cases htc2
            have bc : cpy ≠ mst := fun e => by rw [e, htm2] at htc2; cases htc2
            obtain ⟨hg4, he4⟩ := mod_upd (f' := f4) (hm' := upd hm9 nm most) (ho' := ho2) (hi' := hi2) (hc' := hc9) (th' := 0) (n' := nm + 1) (mo' := va_up mo nm most) (om' := appN om al nm) (al' := al + lz) (bs' := bs) hg2 d4 (by rw [k4 _ (Ne.symm n1), hf3, va_up_self]) (by rw [k4 _ ao, k3 _ bo]; exact hfo2) (by rw [k4 _ ai, k3 _ bi]; exact hfi2) (by rw [k4 _ ac, k3 _ bc]; exact hfc2) (fun a _ h0 h1 _ _ _ => by rw [k4 _ h0, k3 _ h1]) (by
              intro k hk
              by_cases q : k = nm
              · rw [q, pk_us, va_up_self]
              · rw [pk_un q, va_up_ne _ _ q]; exact hk12 k (by omega)) hk22 (fun _ _ _ _ => rfl)
            refine lv_aload_n hx hb d_D_make_127 rfl (lv_at hl 0 rfl) ?_
            refine get_D hC hw hdL2 d4 1 (by decide) k_fl_D_32 rfl d_D_make_128 ?_
            refine lv_iconst (v := 1) hx hb d_D_make_131 (by decide) ?_
            refine lv_isub hx hb d_D_make_132 ?_
            refine tp_i (v := nI nm) (pk_sub (a := nm + 1) (b := 1) (by omega)) ?_
            exact pg_iret hC.1 hw (⟨0, tg, (he1.tr he2).tr he4, Or.inr (Or.inr (Or.inr ⟨rfl, hok, hnm, by rw [uI_nI (by omega)]; exact hsm, rfl, by rw [uI_nI (by omega)]; exact ⟨mst, ow, ix, bb, cpy, gb, _, ho2, hi2, hc9, hg4⟩⟩))⟩) d_D_make_133
          · have hbig : ¬ (al + lz ≤ 16) := fun q => c7 (nI_le (b := 16) q (by decide))
            refine lv_iconst (v := 3) hx hb d_D_make_65 (by decide) ?_
            refine lv_goto (tgt := 70) hx hb d_D_make_66 (by decide) ?_
            refine put_D hC hw hdL hfd 0 (by decide) k_fl_D_28 rfl rfl rfl (Nat.le_of_ble_eq_true rfl) d_D_make_70 (fun H locs hw => ?_)
            obtain ⟨f1, hf1⟩ : ∃ F, F = va_up f d (.inr (3, [.int 3, .int (nI nm), .ref mst, .int (nI al), .ref ow, .ref ix, .ref bb, .ref cpy])) := ⟨_, rfl⟩
            have hw := pw_as (f' := f1) hw rfl hf1.symm
            obtain ⟨hg1, he1⟩ := mod_th hg 3
            rw [← hf1] at hg1 he1
            obtain ⟨⟨hdL1, htd1, hfd1⟩, ⟨hmL1, htm1, hfm1⟩, ⟨hoL1, hto1, hfo1⟩, ⟨hiL1, hti1, hfi1⟩, ⟨hbL1, htb1, hfb1⟩, ⟨hcL1, htc1, hfc1⟩, hk11, hk21, hk31⟩ := id hg1
            refine lv_aload_n hx hb d_D_make_73 rfl (lv_at hl 1 rfl) ?_
            refine get_D hC hw hdL1 hfd1 0 (by decide) k_fl_D_28 rfl d_D_make_74 ?_
            refine lv_if_le (tgt := 82) hx hb d_D_make_77 (by decide) (fun c8 => ((by decide : ¬ (3 : Int32) ≤ 0) c8).elim) (fun c8 => ?_)
            refine lv_iconst (v := 0) hx hb d_D_make_80 (by decide) ?_
            exact pg_iret hC.1 hw (⟨3, tg, he1, Or.inr (Or.inr (Or.inl ⟨rfl, hok, hnm, by rw [uI_nI (by omega)]; exact hbig, ⟨mst, ow, ix, bb, cpy, gb, hm9, ho9, hi9, hc9, hg1⟩⟩))⟩) d_D_make_81
        · refine lv_iconst (v := 2) hx hb d_D_make_50 (by decide) ?_
          refine lv_goto (tgt := 70) hx hb d_D_make_51 (by decide) ?_
          refine put_D hC hw hdL hfd 0 (by decide) k_fl_D_28 rfl rfl rfl (Nat.le_of_ble_eq_true rfl) d_D_make_70 (fun H locs hw => ?_)
          obtain ⟨f1, hf1⟩ : ∃ F, F = va_up f d (.inr (3, [.int 2, .int (nI nm), .ref mst, .int (nI al), .ref ow, .ref ix, .ref bb, .ref cpy])) := ⟨_, rfl⟩
          have hw := pw_as (f' := f1) hw rfl hf1.symm
          obtain ⟨hg1, he1⟩ := mod_th hg 2
          rw [← hf1] at hg1 he1
          obtain ⟨⟨hdL1, htd1, hfd1⟩, ⟨hmL1, htm1, hfm1⟩, ⟨hoL1, hto1, hfo1⟩, ⟨hiL1, hti1, hfi1⟩, ⟨hbL1, htb1, hfb1⟩, ⟨hcL1, htc1, hfc1⟩, hk11, hk21, hk31⟩ := id hg1
          refine lv_aload_n hx hb d_D_make_73 rfl (lv_at hl 1 rfl) ?_
          refine get_D hC hw hdL1 hfd1 0 (by decide) k_fl_D_28 rfl d_D_make_74 ?_
          refine lv_if_le (tgt := 82) hx hb d_D_make_77 (by decide) (fun c8 => ((by decide : ¬ (2 : Int32) ≤ 0) c8).elim) (fun c8 => ?_)
          refine lv_iconst (v := 0) hx hb d_D_make_80 (by decide) ?_
          exact pg_iret hC.1 hw (⟨2, tg, he1, Or.inr (Or.inl ⟨rfl, hok, nI_inj (by omega) (by decide) c6, ⟨mst, ow, ix, bb, cpy, gb, hm9, ho9, hi9, hc9, hg1⟩⟩)⟩) d_D_make_81
      · refine lv_iload_n hx hb d_D_make_15 rfl (lv_at hl 2 rfl) ?_
        refine lv_iload_n hx hb d_D_make_16 rfl (lv_at hl 1 rfl) ?_
        refine lv_icmp_lt (tgt := 30) hx hb d_D_make_17 (by decide) (fun c4 => ?_) (fun c4 => ?_)
        · refine lv_iconst (v := 0) hx hb d_D_make_30 (by decide) ?_
          refine lv_istore_n (lv' := [(3, .int 0), (0, .ref d), (1, .int least), (2, .int most)]) hx hb d_D_make_31 rfl hl (by decide) rfl (fun ls hl => ?_)
          refine lv_aload_n hx hb d_D_make_32 rfl (lv_at hl 1 rfl) ?_
          refine lv_iload_n hx hb d_D_make_33 rfl (lv_at hl 0 rfl) ?_
          refine lv_if_ne (tgt := 41) hx hb d_D_make_34 (by decide) (fun c9 => (c9 rfl).elim) (fun c9 => ?_)
          refine lv_iconst (v := 1) hx hb d_D_make_37 (by decide) ?_
          refine lv_goto (tgt := 70) hx hb d_D_make_38 (by decide) ?_
          refine put_D hC hw hdL hfd 0 (by decide) k_fl_D_28 rfl rfl rfl (Nat.le_of_ble_eq_true rfl) d_D_make_70 (fun H locs hw => ?_)
          obtain ⟨f1, hf1⟩ : ∃ F, F = va_up f d (.inr (3, [.int 1, .int (nI nm), .ref mst, .int (nI al), .ref ow, .ref ix, .ref bb, .ref cpy])) := ⟨_, rfl⟩
          have hw := pw_as (f' := f1) hw rfl hf1.symm
          obtain ⟨hg1, he1⟩ := mod_th hg 1
          rw [← hf1] at hg1 he1
          obtain ⟨⟨hdL1, htd1, hfd1⟩, ⟨hmL1, htm1, hfm1⟩, ⟨hoL1, hto1, hfo1⟩, ⟨hiL1, hti1, hfi1⟩, ⟨hbL1, htb1, hfb1⟩, ⟨hcL1, htc1, hfc1⟩, hk11, hk21, hk31⟩ := id hg1
          refine lv_aload_n hx hb d_D_make_73 rfl (lv_at hl 1 rfl) ?_
          refine get_D hC hw hdL1 hfd1 0 (by decide) k_fl_D_28 rfl d_D_make_74 ?_
          refine lv_if_le (tgt := 82) hx hb d_D_make_77 (by decide) (fun c8 => ((by decide : ¬ (1 : Int32) ≤ 0) c8).elim) (fun c8 => ?_)
          refine lv_iconst (v := 0) hx hb d_D_make_80 (by decide) ?_
          exact pg_iret hC.1 hw (⟨1, tg, he1, Or.inl ⟨rfl, fun h => h.2.elim c3 (fun q => q.1 c4), ⟨mst, ow, ix, bb, cpy, gb, hm9, ho9, hi9, hc9, hg1⟩⟩⟩) d_D_make_81
        · refine lv_iload_n hx hb d_D_make_20 rfl (lv_at hl 2 rfl) ?_
          refine lv_ldc (v := 65536) hx hb hown (hts _ (gg_mem k_cn_D_46)) d_D_make_21 ?_
          refine lv_icmp_gt (tgt := 30) hx hb d_D_make_23 (by decide) (fun c5 => ?_) (fun c5 => ?_)
          · refine lv_iconst (v := 0) hx hb d_D_make_30 (by decide) ?_
            refine lv_istore_n (lv' := [(3, .int 0), (0, .ref d), (1, .int least), (2, .int most)]) hx hb d_D_make_31 rfl hl (by decide) rfl (fun ls hl => ?_)
            refine lv_aload_n hx hb d_D_make_32 rfl (lv_at hl 1 rfl) ?_
            refine lv_iload_n hx hb d_D_make_33 rfl (lv_at hl 0 rfl) ?_
            refine lv_if_ne (tgt := 41) hx hb d_D_make_34 (by decide) (fun c9 => (c9 rfl).elim) (fun c9 => ?_)
            refine lv_iconst (v := 1) hx hb d_D_make_37 (by decide) ?_
            refine lv_goto (tgt := 70) hx hb d_D_make_38 (by decide) ?_
            refine put_D hC hw hdL hfd 0 (by decide) k_fl_D_28 rfl rfl rfl (Nat.le_of_ble_eq_true rfl) d_D_make_70 (fun H locs hw => ?_)
            obtain ⟨f1, hf1⟩ : ∃ F, F = va_up f d (.inr (3, [.int 1, .int (nI nm), .ref mst, .int (nI al), .ref ow, .ref ix, .ref bb, .ref cpy])) := ⟨_, rfl⟩
            have hw := pw_as (f' := f1) hw rfl hf1.symm
            obtain ⟨hg1, he1⟩ := mod_th hg 1
            rw [← hf1] at hg1 he1
            obtain ⟨⟨hdL1, htd1, hfd1⟩, ⟨hmL1, htm1, hfm1⟩, ⟨hoL1, hto1, hfo1⟩, ⟨hiL1, hti1, hfi1⟩, ⟨hbL1, htb1, hfb1⟩, ⟨hcL1, htc1, hfc1⟩, hk11, hk21, hk31⟩ := id hg1
            refine lv_aload_n hx hb d_D_make_73 rfl (lv_at hl 1 rfl) ?_
            refine get_D hC hw hdL1 hfd1 0 (by decide) k_fl_D_28 rfl d_D_make_74 ?_
            refine lv_if_le (tgt := 82) hx hb d_D_make_77 (by decide) (fun c8 => ((by decide : ¬ (1 : Int32) ≤ 0) c8).elim) (fun c8 => ?_)
            refine lv_iconst (v := 0) hx hb d_D_make_80 (by decide) ?_
            exact pg_iret hC.1 hw (⟨1, tg, he1, Or.inl ⟨rfl, fun h => h.2.elim c3 (fun q => Int32.not_lt.mpr q.2 c5), ⟨mst, ow, ix, bb, cpy, gb, hm9, ho9, hi9, hc9, hg1⟩⟩⟩) d_D_make_81
          · have hok : okM least most := ⟨⟨c1, Int32.not_lt.mp c2⟩, Or.inr ⟨c4, Int32.not_lt.mp c5⟩⟩
            obtain ⟨lz, hlz, rfl⟩ : ∃ j, j ≤ 65536 ∧ least = nI j := nI_of2 (M := 65536) (n := 65536) (by decide) c1 (Int32.not_lt.mp c2)
            refine lv_iconst (v := 1) hx hb d_D_make_26 (by decide) ?_
            refine lv_goto (tgt := 31) hx hb d_D_make_27 (by decide) ?_
            refine lv_istore_n (lv' := [(3, .int 1), (0, .ref d), (1, .int (nI lz)), (2, .int most)]) hx hb d_D_make_31 rfl hl (by decide) rfl (fun ls hl => ?_)
            refine lv_aload_n hx hb d_D_make_32 rfl (lv_at hl 1 rfl) ?_
            refine lv_iload_n hx hb d_D_make_33 rfl (lv_at hl 0 rfl) ?_
            refine lv_if_ne (tgt := 41) hx hb d_D_make_34 (by decide) (fun c9 => ?_) (fun c9 => ((by decide : ¬ (1 : Int32) = 0) c9).elim)
            refine lv_aload_n hx hb d_D_make_41 rfl (lv_at hl 1 rfl) ?_
            refine get_D hC hw hdL hfd 1 (by decide) k_fl_D_32 rfl d_D_make_42 ?_
            refine lv_bipush (v := 24) hx hb d_D_make_45 (by decide) ?_
            refine lv_icmp_ne (tgt := 54) hx hb d_D_make_47 (by decide) (fun c6 => ?_) (fun c6 => ?_)
            · have hnm : nm < 24 := by
                rcases Nat.lt_or_ge nm 24 with z | z
                · exact z
                · exact absurd (by rw [show nm = 24 by omega]; rfl) c6
              refine lv_aload_n hx hb d_D_make_54 rfl (lv_at hl 1 rfl) ?_
              refine get_D hC hw hdL hfd 3 (by decide) k_fl_D_35 rfl d_D_make_55 ?_
              refine lv_iload_n hx hb d_D_make_58 rfl (lv_at hl 2 rfl) ?_
              refine lv_iadd hx hb d_D_make_59 ?_
              refine tp_i (v := nI (al + lz)) (nI_add _ _) ?_
              refine lv_bipush (v := 16) hx hb d_D_make_60 (by decide) ?_
              refine lv_icmp_le (tgt := 69) hx hb d_D_make_62 (by decide) (fun c7 => ?_) (fun c7 => ?_)
              · have hsm : al + lz ≤ 16 := (nI_leI (b := 16) (by omega) (by decide)).mp c7
                have hz0 : cnt om al nm = 0 := cnt_zero al (fun j hj => Nat.ne_of_lt (hs3 j hj))
                refine lv_iconst (v := 0) hx hb d_D_make_69 (by decide) ?_
                refine put_D hC hw hdL hfd 0 (by decide) k_fl_D_28 rfl rfl rfl (Nat.le_of_ble_eq_true rfl) d_D_make_70 (fun H locs hw => ?_)
                obtain ⟨f1, hf1⟩ : ∃ F, F = va_up f d (.inr (3, [.int 0, .int (nI nm), .ref mst, .int (nI al), .ref ow, .ref ix, .ref bb, .ref cpy])) := ⟨_, rfl⟩
                have hw := pw_as (f' := f1) hw rfl hf1.symm
                obtain ⟨hg1, he1⟩ := mod_th hg 0
                rw [← hf1] at hg1 he1
                obtain ⟨⟨hdL1, htd1, hfd1⟩, ⟨hmL1, htm1, hfm1⟩, ⟨hoL1, hto1, hfo1⟩, ⟨hiL1, hti1, hfi1⟩, ⟨hbL1, htb1, hfb1⟩, ⟨hcL1, htc1, hfc1⟩, hk11, hk21, hk31⟩ := id hg1
                refine lv_aload_n hx hb d_D_make_73 rfl (lv_at hl 1 rfl) ?_
                refine get_D hC hw hdL1 hfd1 0 (by decide) k_fl_D_28 rfl d_D_make_74 ?_
                refine lv_if_le (tgt := 82) hx hb d_D_make_77 (by decide) (fun c8 => ?_) (fun c8 => (c8 (by decide)).elim)
                refine lv_iconst (v := 0) hx hb d_D_make_82 (by decide) ?_
                refine lv_istore (lv' := [(4, .int 0), (3, .int 1), (0, .ref d), (1, .int (nI lz)), (2, .int most)]) hx hb d_D_make_83 hl (by decide) rfl (fun ls hl => ?_)
                refine lp_make ⟨Nat.zero_le _, Nat.zero_le _⟩ lz most hz0 (fun j => hs5 nm j (by rw [hz0]; omega)) hsm hC (Nat.le_of_ble_eq_true rfl) (Nat.le_of_ble_eq_true rfl) (fun f2 ho2 hi2 H locs ls hg2 he2 hw hl => ?_) (lz + 1) 0 f1 ho9 hi9 _ _ _ (Nat.zero_le _) (by omega) (mod_om hg1 nm) Ext.rf hw (lv_sub hl [0, 2, 3, 4] rfl)
                obtain ⟨⟨hdL2, htd2, hfd2⟩, ⟨hmL2, htm2, hfm2⟩, ⟨hoL2, hto2, hfo2⟩, ⟨hiL2, hti2, hfi2⟩, ⟨hbL2, htb2, hfb2⟩, ⟨hcL2, htc2, hfc2⟩, hk12, hk22, hk32⟩ := id hg2
                refine lv_aload_n hx hb d_D_make_107 rfl (lv_at hl 0 rfl) ?_
                refine get_D hC hw hdL2 hfd2 2 (by decide) k_fl_D_9 rfl d_D_make_108 ?_
                refine lv_aload_n hx hb d_D_make_111 rfl (lv_at hl 0 rfl) ?_
                refine get_D hC hw hdL2 hfd2 1 (by decide) k_fl_D_32 rfl d_D_make_112 ?_
                refine lv_iload_n hx hb d_D_make_115 rfl (lv_at hl 1 rfl) ?_
                refine ast_I hC hw hmL2 hfm2 hnm (by decide) d_D_make_116 (fun H locs hw => ?_)
                have n1 : d ≠ mst := fun e => by rw [e, htm2] at htd2; cases htd2
                obtain ⟨f3, hf3⟩ : ∃ F, F = va_up f2 mst (.inl (kc 3, 24, .inl (upd hm9 nm most))) := ⟨_, rfl⟩
                have hw := pw_as (f' := f3) hw rfl hf3.symm
                have k3 : ∀ a, a ≠ mst → f3 a = f2 a := fun a h => by rw [hf3, va_up_ne _ _ h]
                refine lv_aload_n hx hb d_D_make_117 rfl (lv_at hl 0 rfl) ?_
                refine lv_dup hx hb d_D_make_118 rfl ?_
                refine get_D hC hw hdL2 ((k3 d n1).trans hfd2) 1 (by decide) k_fl_D_32 rfl d_D_make_119 ?_
                refine lv_iconst (v := 1) hx hb d_D_make_122 (by decide) ?_
                refine lv_iadd hx hb d_D_make_123 ?_
                refine tp_i (v := nI (nm + 1)) (nI_1 nm) ?_
                refine put_D hC hw hdL2 ((k3 d n1).trans hfd2) 1 (by decide) k_fl_D_32 rfl rfl rfl (Nat.le_of_ble_eq_true rfl) d_D_make_124 (fun H locs hw => ?_)
                obtain ⟨f4, hf4⟩ : ∃ F, F = va_up f3 d (.inr (3, [.int 0, .int (nI (nm + 1)), .ref mst, .int (nI (al + lz)), .ref ow, .ref ix, .ref bb, .ref cpy])) := ⟨_, rfl⟩
                have hw := pw_as (f' := f4) hw rfl hf4.symm
                have k4 : ∀ a, a ≠ d → f4 a = f3 a := fun a h => by rw [hf4, va_up_ne _ _ h]
                have d4 : f4 d = .inr (3, [.int 0, .int (nI (nm + 1)), .ref mst, .int (nI (al + lz)), .ref ow, .ref ix, .ref bb, .ref cpy]) := by rw [hf4]; exact va_up_self _ _ _
                have ao : ow ≠ d := fun e => by rw [e, htd2] at hto2; cases hto2
                have bo : ow ≠ mst := fun e => by rw [e, htm2] at hto2; cases hto2
                have ai : ix ≠ d := fun e => by rw [e, htd2] at hti2; cases hti2
                have bi : ix ≠ mst := fun e => by rw [e, htm2] at hti2; cases hti2
                have ac : cpy ≠ d := fun e => by rw [e, htd2] at htc2; cases htc2
                have bc : cpy ≠ mst := fun e => by rw [e, htm2] at htc2; cases htc2
                obtain ⟨hg4, he4⟩ := mod_upd (f' := f4) (hm' := upd hm9 nm most) (ho' := ho2) (hi' := hi2) (hc' := hc9) (th' := 0) (n' := nm + 1) (mo' := va_up mo nm most) (om' := appN om al nm) (al' := al + lz) (bs' := bs) hg2 d4 (by rw [k4 _ (Ne.symm n1), hf3, va_up_self]) (by rw [k4 _ ao, k3 _ bo]; exact hfo2) (by rw [k4 _ ai, k3 _ bi]; exact hfi2) (by rw [k4 _ ac, k3 _ bc]; exact hfc2) (fun a _ h0 h1 _ _ _ => by rw [k4 _ h0, k3 _ h1]) (by
                  intro k hk
                  by_cases q : k = nm
                  · rw [q, pk_us, va_up_self]
                  · rw [pk_un q, va_up_ne _ _ q]; exact hk12 k (by omega)) hk22 (fun _ _ _ _ => rfl)
                refine lv_aload_n hx hb d_D_make_127 rfl (lv_at hl 0 rfl) ?_
                refine get_D hC hw hdL2 d4 1 (by decide) k_fl_D_32 rfl d_D_make_128 ?_
                refine lv_iconst (v := 1) hx hb d_D_make_131 (by decide) ?_
                refine lv_isub hx hb d_D_make_132 ?_
                refine tp_i (v := nI nm) (pk_sub (a := nm + 1) (b := 1) (by omega)) ?_
                exact pg_iret hC.1 hw (⟨0, tg, (he1.tr he2).tr he4, Or.inr (Or.inr (Or.inr ⟨rfl, hok, hnm, by rw [uI_nI (by omega)]; exact hsm, rfl, by rw [uI_nI (by omega)]; exact ⟨mst, ow, ix, bb, cpy, gb, _, ho2, hi2, hc9, hg4⟩⟩))⟩) d_D_make_133
              · have hbig : ¬ (al + lz ≤ 16) := fun q => c7 (nI_le (b := 16) q (by decide))
                refine lv_iconst (v := 3) hx hb d_D_make_65 (by decide) ?_
                refine lv_goto (tgt := 70) hx hb d_D_make_66 (by decide) ?_
                refine put_D hC hw hdL hfd 0 (by decide) k_fl_D_28 rfl rfl rfl (Nat.le_of_ble_eq_true rfl) d_D_make_70 (fun H locs hw => ?_)
                obtain ⟨f1, hf1⟩ : ∃ F, F = va_up f d (.inr (3, [.int 3, .int (nI nm), .ref mst, .int (nI al), .ref ow, .ref ix, .ref bb, .ref cpy])) := ⟨_, rfl⟩
                have hw := pw_as (f' := f1) hw rfl hf1.symm
                obtain ⟨hg1, he1⟩ := mod_th hg 3
                rw [← hf1] at hg1 he1
                obtain ⟨⟨hdL1, htd1, hfd1⟩, ⟨hmL1, htm1, hfm1⟩, ⟨hoL1, hto1, hfo1⟩, ⟨hiL1, hti1, hfi1⟩, ⟨hbL1, htb1, hfb1⟩, ⟨hcL1, htc1, hfc1⟩, hk11, hk21, hk31⟩ := id hg1
                refine lv_aload_n hx hb d_D_make_73 rfl (lv_at hl 1 rfl) ?_
                refine get_D hC hw hdL1 hfd1 0 (by decide) k_fl_D_28 rfl d_D_make_74 ?_
                refine lv_if_le (tgt := 82) hx hb d_D_make_77 (by decide) (fun c8 => ((by decide : ¬ (3 : Int32) ≤ 0) c8).elim) (fun c8 => ?_)
                refine lv_iconst (v := 0) hx hb d_D_make_80 (by decide) ?_
                exact pg_iret hC.1 hw (⟨3, tg, he1, Or.inr (Or.inr (Or.inl ⟨rfl, hok, hnm, by rw [uI_nI (by omega)]; exact hbig, ⟨mst, ow, ix, bb, cpy, gb, hm9, ho9, hi9, hc9, hg1⟩⟩))⟩) d_D_make_81
            · refine lv_iconst (v := 2) hx hb d_D_make_50 (by decide) ?_
              refine lv_goto (tgt := 70) hx hb d_D_make_51 (by decide) ?_
              refine put_D hC hw hdL hfd 0 (by decide) k_fl_D_28 rfl rfl rfl (Nat.le_of_ble_eq_true rfl) d_D_make_70 (fun H locs hw => ?_)
              obtain ⟨f1, hf1⟩ : ∃ F, F = va_up f d (.inr (3, [.int 2, .int (nI nm), .ref mst, .int (nI al), .ref ow, .ref ix, .ref bb, .ref cpy])) := ⟨_, rfl⟩
              have hw := pw_as (f' := f1) hw rfl hf1.symm
              obtain ⟨hg1, he1⟩ := mod_th hg 2
              rw [← hf1] at hg1 he1
              obtain ⟨⟨hdL1, htd1, hfd1⟩, ⟨hmL1, htm1, hfm1⟩, ⟨hoL1, hto1, hfo1⟩, ⟨hiL1, hti1, hfi1⟩, ⟨hbL1, htb1, hfb1⟩, ⟨hcL1, htc1, hfc1⟩, hk11, hk21, hk31⟩ := id hg1
              refine lv_aload_n hx hb d_D_make_73 rfl (lv_at hl 1 rfl) ?_
              refine get_D hC hw hdL1 hfd1 0 (by decide) k_fl_D_28 rfl d_D_make_74 ?_
              refine lv_if_le (tgt := 82) hx hb d_D_make_77 (by decide) (fun c8 => ((by decide : ¬ (2 : Int32) ≤ 0) c8).elim) (fun c8 => ?_)
              refine lv_iconst (v := 0) hx hb d_D_make_80 (by decide) ?_
              exact pg_iret hC.1 hw (⟨2, tg, he1, Or.inr (Or.inl ⟨rfl, hok, nI_inj (by omega) (by decide) c6, ⟨mst, ow, ix, bb, cpy, gb, hm9, ho9, hi9, hc9, hg1⟩⟩)⟩) d_D_make_81
