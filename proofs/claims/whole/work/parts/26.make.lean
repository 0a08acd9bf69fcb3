/-! PagedBytes: make, the constructor -/
def okM (least most : Int32) : Prop := (¬ least < 0 ∧ least ≤ 65536) ∧ (most = -1 ∨ (¬ most < least ∧ most ≤ 65536))
set_option maxHeartbeats 4000000 in
set_option maxRecDepth 100000 in
theorem c_P_make (l : Launch) (hst : l.stackTraces = false) (D : va_G) (kc : Nat → ClassId) (L : List Nat) (f : Nat → va_E) (sz : Nat) (x ms cp : Nat) (gm : Nat → Option Nat) (hc : Nat → Int32) (tg : Nat → Nat × Nat) (nm : Nat) (mo : Nat → Int32) (om : Nat → Nat) (al : Nat) (bs : Nat → Nat → Nat) (hg : rootG kc L f tg x ms cp gm hc nm mo om al bs) (hs : stOK nm mo om al bs) (least most : Int32) : vx_Met l y_P_make w_P_make ({ frames := 6, cells := 2, slots := 1027, locals := 82 }) (PP D kc L f sz [.ref x, .int least, .int most]) (Qi D L f sz (fun r u => okM least most ∧ nm < 24 ∧ al + uI least ≤ 16 ∧ r = nI nm ∧ ∃ tg', rootP kc u.1 u.2 tg' x (nm + 1) (va_up mo nm most) (appN om al nm) (al + uI least) bs ∧ Ext SC L f tg u tg')) (XX D L f sz (fun E u => ((E = eIAE ∧ ¬ okM least most) ∨ (E = eISE ∧ okM least most ∧ nm = 24) ∨ (E = eUOE ∧ okM least most ∧ nm < 24 ∧ ¬ (al + uI least ≤ 16))) ∧ u = (L, f))) 2 1027 (pA L f sz) := by
  refine kx_metX (by decide) (Nat.le_of_ble_eq_true rfl) ?_
  intro p e s m below meth c hC hex hw hsz ls hl
  subst hsz
  have hl : lv_has ls 4 [(0, .ref x), (1, .int least), (2, .int most)] := hl
  obtain ⟨⟨⟨hx, hb, hml, hown, hts⟩, hret9, hlocks⟩, hK, hE, hA⟩ := id hC
  obtain ⟨⟨⟨hxL, htx, hfx⟩, ⟨hmsL, htms, hfms⟩, ⟨hcpL, htcp, hfcp⟩⟩, hgn, hgk9⟩ := id hg
  obtain ⟨hs1, hs2, hs3, hs4, hs5, hs6⟩ := id hs
  refine lv_iload_n hx hb d_P_make_0 rfl (lv_at hl 1 rfl) ?_
  refine lv_if_lt (tgt := 10) hx hb d_P_make_1 (by decide) (fun c1 => ?_) (fun c1 => ?_)
  · exact throwS (cls := eIAE) (is := 29) (text := "least is not 0 .. 65536") hC hw hst hex (by decide +kernel) k_cl_P_27 k_in_JIllegalArgumentException (by decide +kernel) hl.1 d_P_make_10 d_P_make_13 d_P_make_14 d_P_make_16 d_P_make_19 ⟨Nat.le_of_ble_eq_true rfl, Nat.le_of_ble_eq_true rfl, Nat.le_of_ble_eq_true rfl, Nat.le_of_ble_eq_true rfl⟩ (by omega) (by omega) (⟨Or.inl ⟨rfl, fun h => h.1.1 c1⟩, rfl⟩)
  · refine lv_iload_n hx hb d_P_make_4 rfl (lv_at hl 1 rfl) ?_
    refine lv_ldc (v := 65536) hx hb hown (hts _ (gg_mem k_cn_P_26)) d_P_make_5 ?_
    refine lv_icmp_le (tgt := 20) hx hb d_P_make_7 (by decide) (fun c2 => ?_) (fun c2 => ?_)
    · obtain ⟨ls9, hls9, rfl⟩ : ∃ j, j ≤ 65536 ∧ least = nI j := nI_of2 (M := 65536) (n := 65536) (by decide) c1 c2
      refine lv_iload_n hx hb d_P_make_20 rfl (lv_at hl 2 rfl) ?_
      refine lv_iconst (v := (-1)) hx hb d_P_make_21 (by decide) ?_
      refine lv_icmp_eq (tgt := 46) hx hb d_P_make_22 (by decide) (fun c3 => ?_) (fun c3 => ?_)
      · subst c3
        have hok : okM (nI ls9) (-1) := ⟨⟨c1, c2⟩, Or.inl rfl⟩
        refine lv_aload_n hx hb d_P_make_46 rfl (lv_at hl 0 rfl) ?_
        refine get_P hC hw hxL hfx 2 (by decide) k_fl_P_19 rfl d_P_make_47 ?_
        refine lv_aload_n hx hb d_P_make_50 rfl (lv_at hl 0 rfl) ?_
        refine get_P hC hw hxL hfx 0 (by decide) k_fl_P_11 rfl d_P_make_51 ?_
        refine len_M hC hw hmsL hfms d_P_make_54 ?_
        refine lv_icmp_lt (tgt := 68) hx hb d_P_make_55 (by decide) (fun c6 => ?_) (fun c6 => ?_)
        · have hnm : nm < 24 := by
            rcases Nat.lt_or_ge nm 24 with z | z
            · exact z
            · exact absurd c6 (nI_nlt z (by omega))
          refine lv_iload_n hx hb d_P_make_68 rfl (lv_at hl 1 rfl) ?_
          refine lv_bipush (v := 16) hx hb d_P_make_69 (by decide) ?_
          refine lv_aload_n hx hb d_P_make_71 rfl (lv_at hl 0 rfl) ?_
          refine get_P hC hw hxL hfx 3 (by decide) k_fl_P_23 rfl d_P_make_72 ?_
          refine lv_isub hx hb d_P_make_75 ?_
          refine tp_i (v := nI (16 - al)) (pk_sub (a := 16) hs2) ?_
          refine lv_icmp_le (tgt := 89) hx hb d_P_make_76 (by decide) (fun c7 => ?_) (fun c7 => ?_)
          · have hal : ls9 ≤ 16 - al := (nI_leI (by omega) (by omega)).mp c7
            refine lv_aload_n hx hb d_P_make_89 rfl (lv_at hl 0 rfl) ?_
            refine get_P hC hw hxL hfx 2 (by decide) k_fl_P_19 rfl d_P_make_90 ?_
            refine lv_istore_n (lv' := [(3, .int (nI nm)), (0, .ref x), (1, .int (nI ls9)), (2, .int (-1))]) hx hb d_P_make_93 rfl hl (by decide) rfl (fun ls hl => ?_)
            refine lv_aload_n hx hb d_P_make_94 rfl (lv_at hl 1 rfl) ?_
            refine get_P hC hw hxL hfx 0 (by decide) k_fl_P_11 rfl d_P_make_95 ?_
            refine lv_iload_n hx hb d_P_make_98 rfl (lv_at hl 0 rfl) ?_
            refine new_M hC hw k_cl_P_9 k_it_M k_in_M (fs := [.int 0, .int 0, .null]) (fun j hj => by rcases (show j = 0 ∨ j = 1 ∨ j = 2 by omega) with rfl | rfl | rfl <;> rfl) (Nat.le_of_ble_eq_true rfl) (Nat.le_of_ble_eq_true rfl) d_P_make_99 (fun ma H hma hw => ?_)
            refine lv_dup hx hb d_P_make_102 rfl ?_
            refine lv_iload_n hx hb d_P_make_103 rfl (lv_at hl 2 rfl) ?_
            refine lv_iload_n hx hb d_P_make_104 rfl (lv_at hl 3 rfl) ?_
            refine callCtor (b := ma) (As := [.int (nI ls9), .int (-1)]) (n9 := 2) hC hw (c_M_init_none l D kc _ _ _ ma ls9 mem_r (va_up_self _ _ _)) k_co_M_init k_ml_P_46 k_im_M_init k_in_M rfl rfl rfl (by decide +kernel) rfl ⟨Nat.le_of_ble_eq_true rfl, Nat.le_of_ble_eq_true rfl⟩ hl.1 rfl (Nat.le_of_ble_eq_true rfl) d_P_make_105 ⟨Nat.le_of_ble_eq_true rfl, Nat.le_of_ble_eq_true rfl⟩ (fun u H locs hp hw => ?_)
            obtain ⟨ra, hra9, rfl⟩ := hp
            have hraL : ra ∉ L := fun h => hra9 (mem_l h)
            have hmr : ma ≠ ra := ne_in mem_r hra9
            obtain ⟨f2, hf2⟩ : ∃ F, F = va_up (va_up (va_up (va_up f ma (.inr (0, [.int 0, .int 0, .null]))) ma (.inr (0, [.int (-1), .int (nI ls9), .null]))) ra (.inl (kc 2, 16 * 64, .inr (.inr (.inr (.inr (fun _ => none))))))) ma (.inr (0, [.int (-1), .int (nI ls9), .ref ra])) := ⟨_, rfl⟩
            have hw := pw_as (L' := (L ++ [ma]) ++ [ra]) (f' := f2) hw rfl hf2.symm
            have k2 : ∀ a, a ≠ ma → a ≠ ra → f2 a = f a := fun a h1 h2 => by rw [hf2, va_up_ne _ _ h1, va_up_ne _ _ h2, va_up_ne _ _ h1, va_up_ne _ _ h1]
            have m2 : f2 ma = .inr (0, [.int (-1), .int (nI ls9), .ref ra]) := by rw [hf2]; exact va_up_self _ _ _
            have r2 : f2 ra = .inl (kc 2, 16 * 64, .inr (.inr (.inr (.inr (fun _ => none))))) := by rw [hf2, va_up_ne _ _ (Ne.symm hmr)]; exact va_up_self _ _ _
            have xma : x ≠ ma := ne_in hxL hma
            have xra : x ≠ ra := ne_in hxL hraL
            have mma : ms ≠ ma := ne_in hmsL hma
            have mra : ms ≠ ra := ne_in hmsL hraL
            have xms : x ≠ ms := fun e => by rw [e, htms] at htx; cases htx
            refine ast_M hC hw (mem_l (mem_l hmsL)) ((k2 ms mma mra).trans hfms) (mem_l mem_r) m2 hnm (by decide) d_P_make_108 (fun H locs hw => ?_)
            obtain ⟨f3, hf3⟩ : ∃ F, F = va_up f2 ms (.inl (kc 1, 24, .inr (.inr (.inr (.inr (va_up gm nm (some ma))))))) := ⟨_, rfl⟩
            have hw := pw_as (f' := f3) hw rfl hf3.symm
            have k3 : ∀ a, a ≠ ms → f3 a = f2 a := fun a h1 => by rw [hf3, va_up_ne _ _ h1]
            have x3 : f3 x = .inr (2, [.ref ms, .ref cp, .int (nI nm), .int (nI al)]) := by rw [k3 x xms, k2 x xma xra]; exact hfx
            refine lv_aload_n hx hb d_P_make_109 rfl (lv_at hl 1 rfl) ?_
            refine lv_iload_n hx hb d_P_make_110 rfl (lv_at hl 0 rfl) ?_
            refine lv_iconst (v := 1) hx hb d_P_make_111 (by decide) ?_
            refine lv_iadd hx hb d_P_make_112 ?_
            refine tp_i (v := nI (nm + 1)) (nI_1 nm) ?_
            refine put_P hC hw (mem_l (mem_l hxL)) x3 2 (by decide) k_fl_P_19 rfl rfl rfl (Nat.le_of_ble_eq_true rfl) d_P_make_113 (fun H locs hw => ?_)
            obtain ⟨f4, hf4⟩ : ∃ F, F = va_up f3 x (.inr (2, [.ref ms, .ref cp, .int (nI (nm + 1)), .int (nI al)])) := ⟨_, rfl⟩
            have hw := pw_as (f' := f4) hw rfl hf4.symm
            have x4 : f4 x = .inr (2, [.ref ms, .ref cp, .int (nI (nm + 1)), .int (nI al)]) := by rw [hf4]; exact va_up_self _ _ _
            refine lv_aload_n hx hb d_P_make_116 rfl (lv_at hl 1 rfl) ?_
            refine lv_dup hx hb d_P_make_117 rfl ?_
            refine get_P hC hw (mem_l (mem_l hxL)) x4 3 (by decide) k_fl_P_23 rfl d_P_make_118 ?_
            refine lv_iload_n hx hb d_P_make_121 rfl (lv_at hl 2 rfl) ?_
            refine lv_iadd hx hb d_P_make_122 ?_
            refine tp_i (v := nI (al + ls9)) (nI_add _ _) ?_
            refine put_P hC hw (mem_l (mem_l hxL)) x4 3 (by decide) k_fl_P_23 rfl rfl rfl (Nat.le_of_ble_eq_true rfl) d_P_make_123 (fun H locs hw => ?_)
            obtain ⟨f5, hf5⟩ : ∃ F, F = va_up f4 x (.inr (2, [.ref ms, .ref cp, .int (nI (nm + 1)), .int (nI (al + ls9))])) := ⟨_, rfl⟩
            have hw := pw_as (f' := f5) hw rfl hf5.symm
            have k5 : ∀ a, a ≠ x → f5 a = f3 a := fun a h1 => by rw [hf5, va_up_ne _ _ h1, hf4, va_up_ne _ _ h1]
            have hz0 : cnt om al nm = 0 := cnt_zero al (fun j hj => Nat.ne_of_lt (hs3 j hj))
            obtain ⟨tg2, hr2, he2⟩ := root_make (f' := f5) (mv := -1) (N := 16 * 64) (ls9 := ls9) hg hnm hz0 (fun j => hs5 nm j (by rw [hz0]; omega)) (Or.inl ⟨rfl, rfl⟩) hma hraL hmr (by rw [k5 ma (Ne.symm xma), k3 ma (Ne.symm mma)]; exact m2) (by rw [k5 ra (Ne.symm xra), k3 ra (Ne.symm mra)]; exact r2) (by rw [k5 ms (Ne.symm xms), hf3, va_up_self]) (by rw [hf5, va_up_self]) (fun a ha h1 h2 => by rw [k5 a h2, k3 a h1, k2 a (ne_in ha hma) (ne_in ha hraL)])
            refine lv_iload_n hx hb d_P_make_126 rfl (lv_at hl 0 rfl) ?_
            refine W.widen (k := 2) (n := 1027) (by omega) (by omega) ?_
            exact vx_ret (pg_iret hC.1 hw (⟨hok, hnm, by rw [uI_nI (by omega)]; omega, rfl, tg2, by rw [uI_nI (by omega)]; exact ⟨ms, cp, _, hc, hr2⟩, he2⟩) d_P_make_127)
          · exact throwS (cls := eUOE) (is := 43) (text := "all would have more than 16 pages") hC hw hst hex (by decide +kernel) k_cl_P_41 k_in_JUnsupportedOperationException (by decide +kernel) hl.1 d_P_make_79 d_P_make_82 d_P_make_83 d_P_make_85 d_P_make_88 ⟨Nat.le_of_ble_eq_true rfl, Nat.le_of_ble_eq_true rfl, Nat.le_of_ble_eq_true rfl, Nat.le_of_ble_eq_true rfl⟩ (by omega) (by omega) (⟨Or.inr (Or.inr ⟨rfl, hok, hnm, fun z => c7 (by rw [uI_nI (by omega)] at z; exact nI_le (by omega) (by omega))⟩), rfl⟩)
        · exact throwS (cls := eISE) (is := 38) (text := "there are 24 memories") hC hw hst hex (by decide +kernel) k_cl_P_36 k_in_JIllegalStateException (by decide +kernel) hl.1 d_P_make_58 d_P_make_61 d_P_make_62 d_P_make_64 d_P_make_67 ⟨Nat.le_of_ble_eq_true rfl, Nat.le_of_ble_eq_true rfl, Nat.le_of_ble_eq_true rfl, Nat.le_of_ble_eq_true rfl⟩ (by omega) (by omega) (⟨Or.inr (Or.inl ⟨rfl, hok, by rcases Nat.lt_or_ge nm 24 with z | z; exact absurd (nI_lt z (by decide)) c6; omega⟩), rfl⟩)
      · refine lv_iload_n hx hb d_P_make_25 rfl (lv_at hl 2 rfl) ?_
        refine lv_iload_n hx hb d_P_make_26 rfl (lv_at hl 1 rfl) ?_
        refine lv_icmp_lt (tgt := 36) hx hb d_P_make_27 (by decide) (fun c4 => ?_) (fun c4 => ?_)
        · exact throwS (cls := eIAE) (is := 34) (text := "most is below least or above 65536") hC hw hst hex (by decide +kernel) k_cl_P_27 k_in_JIllegalArgumentException (by decide +kernel) hl.1 d_P_make_36 d_P_make_39 d_P_make_40 d_P_make_42 d_P_make_45 ⟨Nat.le_of_ble_eq_true rfl, Nat.le_of_ble_eq_true rfl, Nat.le_of_ble_eq_true rfl, Nat.le_of_ble_eq_true rfl⟩ (by omega) (by omega) (⟨Or.inl ⟨rfl, fun h => h.2.elim c3 (fun q => q.1 c4)⟩, rfl⟩)
        · refine lv_iload_n hx hb d_P_make_30 rfl (lv_at hl 2 rfl) ?_
          refine lv_ldc (v := 65536) hx hb hown (hts _ (gg_mem k_cn_P_26)) d_P_make_31 ?_
          refine lv_icmp_le (tgt := 46) hx hb d_P_make_33 (by decide) (fun c5 => ?_) (fun c5 => ?_)
          · obtain ⟨q9, hq9, rfl⟩ : ∃ j, j ≤ 65536 ∧ most = nI j := nI_of2 (M := 65536) (n := 65536) (by decide) (fun q => c4 (Int32.lt_of_lt_of_le q (nI_pos' (by omega)))) c5
            have hok : okM (nI ls9) (nI q9) := ⟨⟨c1, c2⟩, Or.inr ⟨c4, c5⟩⟩
            refine lv_aload_n hx hb d_P_make_46 rfl (lv_at hl 0 rfl) ?_
            refine get_P hC hw hxL hfx 2 (by decide) k_fl_P_19 rfl d_P_make_47 ?_
            refine lv_aload_n hx hb d_P_make_50 rfl (lv_at hl 0 rfl) ?_
            refine get_P hC hw hxL hfx 0 (by decide) k_fl_P_11 rfl d_P_make_51 ?_
            refine len_M hC hw hmsL hfms d_P_make_54 ?_
            refine lv_icmp_lt (tgt := 68) hx hb d_P_make_55 (by decide) (fun c6 => ?_) (fun c6 => ?_)
            · have hnm : nm < 24 := by
                rcases Nat.lt_or_ge nm 24 with z | z
                · exact z
                · exact absurd c6 (nI_nlt z (by omega))
              refine lv_iload_n hx hb d_P_make_68 rfl (lv_at hl 1 rfl) ?_
              refine lv_bipush (v := 16) hx hb d_P_make_69 (by decide) ?_
              refine lv_aload_n hx hb d_P_make_71 rfl (lv_at hl 0 rfl) ?_
              refine get_P hC hw hxL hfx 3 (by decide) k_fl_P_23 rfl d_P_make_72 ?_
              refine lv_isub hx hb d_P_make_75 ?_
              refine tp_i (v := nI (16 - al)) (pk_sub (a := 16) hs2) ?_
              refine lv_icmp_le (tgt := 89) hx hb d_P_make_76 (by decide) (fun c7 => ?_) (fun c7 => ?_)
              · have hal : ls9 ≤ 16 - al := (nI_leI (by omega) (by omega)).mp c7
                refine lv_aload_n hx hb d_P_make_89 rfl (lv_at hl 0 rfl) ?_
                refine get_P hC hw hxL hfx 2 (by decide) k_fl_P_19 rfl d_P_make_90 ?_
                refine lv_istore_n (lv' := [(3, .int (nI nm)), (0, .ref x), (1, .int (nI ls9)), (2, .int (nI q9))]) hx hb d_P_make_93 rfl hl (by decide) rfl (fun ls hl => ?_)
                refine lv_aload_n hx hb d_P_make_94 rfl (lv_at hl 1 rfl) ?_
                refine get_P hC hw hxL hfx 0 (by decide) k_fl_P_11 rfl d_P_make_95 ?_
                refine lv_iload_n hx hb d_P_make_98 rfl (lv_at hl 0 rfl) ?_
                refine new_M hC hw k_cl_P_9 k_it_M k_in_M (fs := [.int 0, .int 0, .null]) (fun j hj => by rcases (show j = 0 ∨ j = 1 ∨ j = 2 by omega) with rfl | rfl | rfl <;> rfl) (Nat.le_of_ble_eq_true rfl) (Nat.le_of_ble_eq_true rfl) d_P_make_99 (fun ma H hma hw => ?_)
                refine lv_dup hx hb d_P_make_102 rfl ?_
                refine lv_iload_n hx hb d_P_make_103 rfl (lv_at hl 2 rfl) ?_
                refine lv_iload_n hx hb d_P_make_104 rfl (lv_at hl 3 rfl) ?_
                refine callCtor (b := ma) (As := [.int (nI ls9), .int (nI q9)]) (n9 := 2) hC hw (c_M_init_some l D kc _ _ _ ma ls9 mem_r (va_up_self _ _ _) q9 hq9) k_co_M_init k_ml_P_46 k_im_M_init k_in_M rfl rfl rfl (by decide +kernel) rfl ⟨Nat.le_of_ble_eq_true rfl, Nat.le_of_ble_eq_true rfl⟩ hl.1 rfl (Nat.le_of_ble_eq_true rfl) d_P_make_105 ⟨Nat.le_of_ble_eq_true rfl, Nat.le_of_ble_eq_true rfl⟩ (fun u H locs hp hw => ?_)
                obtain ⟨ra, hra9, rfl⟩ := hp
                have hraL : ra ∉ L := fun h => hra9 (mem_l h)
                have hmr : ma ≠ ra := ne_in mem_r hra9
                obtain ⟨f2, hf2⟩ : ∃ F, F = va_up (va_up (va_up (va_up f ma (.inr (0, [.int 0, .int 0, .null]))) ma (.inr (0, [.int (nI q9), .int (nI ls9), .null]))) ra (.inl (kc 2, min q9 16 * 64, .inr (.inr (.inr (.inr (fun _ => none))))))) ma (.inr (0, [.int (nI q9), .int (nI ls9), .ref ra])) := ⟨_, rfl⟩
                have hw := pw_as (L' := (L ++ [ma]) ++ [ra]) (f' := f2) hw rfl hf2.symm
                have k2 : ∀ a, a ≠ ma → a ≠ ra → f2 a = f a := fun a h1 h2 => by rw [hf2, va_up_ne _ _ h1, va_up_ne _ _ h2, va_up_ne _ _ h1, va_up_ne _ _ h1]
                have m2 : f2 ma = .inr (0, [.int (nI q9), .int (nI ls9), .ref ra]) := by rw [hf2]; exact va_up_self _ _ _
                have r2 : f2 ra = .inl (kc 2, min q9 16 * 64, .inr (.inr (.inr (.inr (fun _ => none))))) := by rw [hf2, va_up_ne _ _ (Ne.symm hmr)]; exact va_up_self _ _ _
                have xma : x ≠ ma := ne_in hxL hma
                have xra : x ≠ ra := ne_in hxL hraL
                have mma : ms ≠ ma := ne_in hmsL hma
                have mra : ms ≠ ra := ne_in hmsL hraL
                have xms : x ≠ ms := fun e => by rw [e, htms] at htx; cases htx
                refine ast_M hC hw (mem_l (mem_l hmsL)) ((k2 ms mma mra).trans hfms) (mem_l mem_r) m2 hnm (by decide) d_P_make_108 (fun H locs hw => ?_)
                obtain ⟨f3, hf3⟩ : ∃ F, F = va_up f2 ms (.inl (kc 1, 24, .inr (.inr (.inr (.inr (va_up gm nm (some ma))))))) := ⟨_, rfl⟩
                have hw := pw_as (f' := f3) hw rfl hf3.symm
                have k3 : ∀ a, a ≠ ms → f3 a = f2 a := fun a h1 => by rw [hf3, va_up_ne _ _ h1]
                have x3 : f3 x = .inr (2, [.ref ms, .ref cp, .int (nI nm), .int (nI al)]) := by rw [k3 x xms, k2 x xma xra]; exact hfx
                refine lv_aload_n hx hb d_P_make_109 rfl (lv_at hl 1 rfl) ?_
                refine lv_iload_n hx hb d_P_make_110 rfl (lv_at hl 0 rfl) ?_
                refine lv_iconst (v := 1) hx hb d_P_make_111 (by decide) ?_
                refine lv_iadd hx hb d_P_make_112 ?_
                refine tp_i (v := nI (nm + 1)) (nI_1 nm) ?_
                refine put_P hC hw (mem_l (mem_l hxL)) x3 2 (by decide) k_fl_P_19 rfl rfl rfl (Nat.le_of_ble_eq_true rfl) d_P_make_113 (fun H locs hw => ?_)
                obtain ⟨f4, hf4⟩ : ∃ F, F = va_up f3 x (.inr (2, [.ref ms, .ref cp, .int (nI (nm + 1)), .int (nI al)])) := ⟨_, rfl⟩
                have hw := pw_as (f' := f4) hw rfl hf4.symm
                have x4 : f4 x = .inr (2, [.ref ms, .ref cp, .int (nI (nm + 1)), .int (nI al)]) := by rw [hf4]; exact va_up_self _ _ _
                refine lv_aload_n hx hb d_P_make_116 rfl (lv_at hl 1 rfl) ?_
                refine lv_dup hx hb d_P_make_117 rfl ?_
                refine get_P hC hw (mem_l (mem_l hxL)) x4 3 (by decide) k_fl_P_23 rfl d_P_make_118 ?_
                refine lv_iload_n hx hb d_P_make_121 rfl (lv_at hl 2 rfl) ?_
                refine lv_iadd hx hb d_P_make_122 ?_
                refine tp_i (v := nI (al + ls9)) (nI_add _ _) ?_
                refine put_P hC hw (mem_l (mem_l hxL)) x4 3 (by decide) k_fl_P_23 rfl rfl rfl (Nat.le_of_ble_eq_true rfl) d_P_make_123 (fun H locs hw => ?_)
                obtain ⟨f5, hf5⟩ : ∃ F, F = va_up f4 x (.inr (2, [.ref ms, .ref cp, .int (nI (nm + 1)), .int (nI (al + ls9))])) := ⟨_, rfl⟩
                have hw := pw_as (f' := f5) hw rfl hf5.symm
                have k5 : ∀ a, a ≠ x → f5 a = f3 a := fun a h1 => by rw [hf5, va_up_ne _ _ h1, hf4, va_up_ne _ _ h1]
                have hz0 : cnt om al nm = 0 := cnt_zero al (fun j hj => Nat.ne_of_lt (hs3 j hj))
                obtain ⟨tg2, hr2, he2⟩ := root_make (f' := f5) (mv := nI q9) (N := min q9 16 * 64) (ls9 := ls9) hg hnm hz0 (fun j => hs5 nm j (by rw [hz0]; omega)) (Or.inr ⟨q9, hq9, rfl, rfl⟩) hma hraL hmr (by rw [k5 ma (Ne.symm xma), k3 ma (Ne.symm mma)]; exact m2) (by rw [k5 ra (Ne.symm xra), k3 ra (Ne.symm mra)]; exact r2) (by rw [k5 ms (Ne.symm xms), hf3, va_up_self]) (by rw [hf5, va_up_self]) (fun a ha h1 h2 => by rw [k5 a h2, k3 a h1, k2 a (ne_in ha hma) (ne_in ha hraL)])
                refine lv_iload_n hx hb d_P_make_126 rfl (lv_at hl 0 rfl) ?_
                refine W.widen (k := 2) (n := 1027) (by omega) (by omega) ?_
                exact vx_ret (pg_iret hC.1 hw (⟨hok, hnm, by rw [uI_nI (by omega)]; omega, rfl, tg2, by rw [uI_nI (by omega)]; exact ⟨ms, cp, _, hc, hr2⟩, he2⟩) d_P_make_127)
              · exact throwS (cls := eUOE) (is := 43) (text := "all would have more than 16 pages") hC hw hst hex (by decide +kernel) k_cl_P_41 k_in_JUnsupportedOperationException (by decide +kernel) hl.1 d_P_make_79 d_P_make_82 d_P_make_83 d_P_make_85 d_P_make_88 ⟨Nat.le_of_ble_eq_true rfl, Nat.le_of_ble_eq_true rfl, Nat.le_of_ble_eq_true rfl, Nat.le_of_ble_eq_true rfl⟩ (by omega) (by omega) (⟨Or.inr (Or.inr ⟨rfl, hok, hnm, fun z => c7 (by rw [uI_nI (by omega)] at z; exact nI_le (by omega) (by omega))⟩), rfl⟩)
            · exact throwS (cls := eISE) (is := 38) (text := "there are 24 memories") hC hw hst hex (by decide +kernel) k_cl_P_36 k_in_JIllegalStateException (by decide +kernel) hl.1 d_P_make_58 d_P_make_61 d_P_make_62 d_P_make_64 d_P_make_67 ⟨Nat.le_of_ble_eq_true rfl, Nat.le_of_ble_eq_true rfl, Nat.le_of_ble_eq_true rfl, Nat.le_of_ble_eq_true rfl⟩ (by omega) (by omega) (⟨Or.inr (Or.inl ⟨rfl, hok, by rcases Nat.lt_or_ge nm 24 with z | z; exact absurd (nI_lt z (by decide)) c6; omega⟩), rfl⟩)
          · exact throwS (cls := eIAE) (is := 34) (text := "most is below least or above 65536") hC hw hst hex (by decide +kernel) k_cl_P_27 k_in_JIllegalArgumentException (by decide +kernel) hl.1 d_P_make_36 d_P_make_39 d_P_make_40 d_P_make_42 d_P_make_45 ⟨Nat.le_of_ble_eq_true rfl, Nat.le_of_ble_eq_true rfl, Nat.le_of_ble_eq_true rfl, Nat.le_of_ble_eq_true rfl⟩ (by omega) (by omega) (⟨Or.inl ⟨rfl, fun h => h.2.elim c3 (fun q => c5 q.2)⟩, rfl⟩)
    · exact throwS (cls := eIAE) (is := 29) (text := "least is not 0 .. 65536") hC hw hst hex (by decide +kernel) k_cl_P_27 k_in_JIllegalArgumentException (by decide +kernel) hl.1 d_P_make_10 d_P_make_13 d_P_make_14 d_P_make_16 d_P_make_19 ⟨Nat.le_of_ble_eq_true rfl, Nat.le_of_ble_eq_true rfl, Nat.le_of_ble_eq_true rfl, Nat.le_of_ble_eq_true rfl⟩ (by omega) (by omega) (⟨Or.inl ⟨rfl, fun h => c2 h.1.2⟩, rfl⟩)
set_option maxHeartbeats 4000000 in
set_option maxRecDepth 100000 in
theorem c_P_init (l : Launch) (D : va_G) (kc : Nat → ClassId) (L : List Nat) (f : Nat → va_E) (sz : Nat) (x : Nat) (tg : Nat → Nat × Nat) (mo : Nat → Int32) (om : Nat → Nat) (bs : Nat → Nat → Nat) (hx9 : x ∈ L) (hex9 : f x = .inr (2, [.null, .null, .int 0, .int 0])) : Met l y_P_init w_P_init ({ frames := 1, cells := 2, slots := 4120, locals := 12 }) (PP D kc L f sz [.ref x]) (Qv D L f sz (fun u => ∃ tg', rootP kc u.1 u.2 tg' x 0 mo om 0 bs ∧ (∀ a, a ∈ L → a ∈ u.1) ∧ (∀ a, a ∈ L → a ≠ x → u.2 a = f a ∧ tg' a = tg a) ∧ ∀ a, a ∈ u.1 → a ∉ L → (tg' a).1 = 100)) 2 4120 (pA L f sz) := by
  refine kx_met (by decide) (Nat.le_of_ble_eq_true rfl) ?_
  intro p e s m below meth c hC hnm hw hsz ls hl
  subst hsz
  have hl : lv_has ls 1 [(0, .ref x)] := hl
  obtain ⟨⟨⟨hx, hb, hml, hown, hts⟩, hret9, hlocks⟩, hK, hE, hA⟩ := id hC
  refine lv_aload_n hx hb d_P_init_0 rfl (lv_at hl 0 rfl) ?_
  refine callO hC hw hl.1 k_ml_P_3 d_P_init_1 (Nat.le_of_ble_eq_true rfl) (Nat.le_of_ble_eq_true rfl) ?_
  refine lv_aload_n hx hb d_P_init_4 rfl (lv_at hl 0 rfl) ?_
  refine lv_bipush (v := 24) hx hb d_P_init_5 (by decide) ?_
  refine tp_i (v := nI 24) (rfl) ?_
  refine newM hC hw k_cl_P_9 (by decide) (Nat.le_of_ble_eq_true rfl) (Nat.le_of_ble_eq_true rfl) d_P_init_7 (fun ms H hms hw => ?_)
  refine putF_P hC hw hnm rfl (mem_l hx9) ((va_up_ne _ _ (ne_in hx9 hms)).trans hex9) 0 (by decide) k_fl_P_11 rfl rfl rfl rfl (Nat.le_of_ble_eq_true rfl) d_P_init_10 (fun H locs hw => ?_)
  obtain ⟨f1, hf1⟩ : ∃ F, F = va_up (va_up f ms (.inl (kc 1, 24, .inr (.inr (.inr (.inr (fun _ => none))))))) x (.inr (2, [.ref ms, .null, .int 0, .int 0])) := ⟨_, rfl⟩
  have hw := pw_as (f' := f1) hw rfl hf1.symm
  have xms : x ≠ ms := ne_in hx9 hms
  have x1 : f1 x = .inr (2, [.ref ms, .null, .int 0, .int 0]) := by rw [hf1]; exact va_up_self _ _ _
  have m1 : f1 ms = .inl (kc 1, 24, .inr (.inr (.inr (.inr (fun _ => none))))) := by rw [hf1, va_up_ne _ _ (Ne.symm xms)]; exact va_up_self _ _ _
  have k1 : ∀ a, a ≠ x → a ≠ ms → f1 a = f a := fun a h1 h2 => by rw [hf1, va_up_ne _ _ h1, va_up_ne _ _ h2]
  refine lv_aload_n hx hb d_P_init_13 rfl (lv_at hl 0 rfl) ?_
  refine lv_sipush (v := 4096) hx hb d_P_init_14 (by decide) ?_
  refine tp_i (v := nI 4096) (rfl) ?_
  refine newB hC hw (gg_of (by decide +kernel) (by decide +kernel)) (by decide) (Nat.le_of_ble_eq_true rfl) (Nat.le_of_ble_eq_true rfl) d_P_init_17 (fun cp H hcp hw => ?_)
  have xcp : x ≠ cp := ne_in (mem_l hx9) hcp
  have mcp : ms ≠ cp := ne_in mem_r hcp
  refine putF_P hC hw hnm rfl (mem_l (mem_l hx9)) ((va_up_ne _ _ xcp).trans x1) 1 (by decide) k_fl_P_15 rfl rfl rfl rfl (Nat.le_of_ble_eq_true rfl) d_P_init_19 (fun H locs hw => ?_)
  obtain ⟨f2, hf2⟩ : ∃ F, F = va_up (va_up f1 cp (.inl (kc 0, 4096, .inl (fun _ => 0)))) x (.inr (2, [.ref ms, .ref cp, .int 0, .int 0])) := ⟨_, rfl⟩
  have hw := pw_as (f' := f2) hw rfl hf2.symm
  have x2 : f2 x = .inr (2, [.ref ms, .ref cp, .int 0, .int 0]) := by rw [hf2]; exact va_up_self _ _ _
  have c2 : f2 cp = .inl (kc 0, 4096, .inl (fun _ => 0)) := by rw [hf2, va_up_ne _ _ (Ne.symm xcp)]; exact va_up_self _ _ _
  have k2 : ∀ a, a ≠ x → a ≠ cp → f2 a = f1 a := fun a h1 h2 => by rw [hf2, va_up_ne _ _ h1, va_up_ne _ _ h2]
  refine lv_aload_n hx hb d_P_init_22 rfl (lv_at hl 0 rfl) ?_
  refine lv_iconst (v := 0) hx hb d_P_init_23 (by decide) ?_
  refine put_P hC hw (mem_l (mem_l hx9)) x2 2 (by decide) k_fl_P_19 rfl rfl rfl (Nat.le_of_ble_eq_true rfl) d_P_init_24 (fun H locs hw => ?_)
  refine lv_aload_n hx hb d_P_init_27 rfl (lv_at hl 0 rfl) ?_
  refine lv_iconst (v := 0) hx hb d_P_init_28 (by decide) ?_
  refine put_P hC hw (mem_l (mem_l hx9)) (va_up_self _ _ _) 3 (by decide) k_fl_P_23 rfl rfl rfl (Nat.le_of_ble_eq_true rfl) d_P_init_29 (fun H locs hw => ?_)
  obtain ⟨f3, hf3⟩ : ∃ F, F = va_up (va_up f2 x (.inr (2, [.ref ms, .ref cp, .int 0, .int 0]))) x (.inr (2, [.ref ms, .ref cp, .int 0, .int 0])) := ⟨_, rfl⟩
  have hw := pw_as (f' := f3) hw rfl hf3.symm
  have k3 : ∀ a, f3 a = f2 a := fun a => by
    by_cases q : a = x
    · rw [q, hf3, va_up_self, x2]
    · rw [hf3, va_up_ne _ _ q, va_up_ne _ _ q]
  obtain ⟨t3, ht3⟩ : ∃ T, T = va_up (va_up (va_up tg x (100, 0)) ms (100, 1)) cp (100, 2) := ⟨_, rfl⟩
  have tx : t3 x = (100, 0) := by rw [ht3, va_up_ne _ _ xcp, va_up_ne _ _ xms, va_up_self]
  have tm : t3 ms = (100, 1) := by rw [ht3, va_up_ne _ _ mcp, va_up_self]
  have tc : t3 cp = (100, 2) := by rw [ht3, va_up_self]
  refine W.widen (k := 2) (n := 4120) (by omega) (by omega) ?_
  have kk9 : ∀ a, a ∈ L → a ≠ x → f3 a = f a ∧ t3 a = tg a := fun a ha hne => by
    have e1 : a ≠ ms := ne_in ha hms
    have e2 : a ≠ cp := ne_in (mem_l ha) hcp
    exact ⟨by rw [k3, k2 a hne e2, k1 a hne e1], by rw [ht3, va_up_ne _ _ e2, va_up_ne _ _ e1, va_up_ne _ _ hne]⟩
  have nn9 : ∀ a, a ∈ (L ++ [ms]) ++ [cp] → a ∉ L → (t3 a).1 = 100 := fun a ha hn => by
    rcases List.mem_append.mp ha with h | h
    · rcases List.mem_append.mp h with h | h
      · exact absurd h hn
      · rw [List.mem_singleton.mp h, tm]
    · rw [List.mem_singleton.mp h, tc]
  exact pg_vret hC.1 hw (⟨t3, ⟨ms, cp, (fun _ => none), (fun _ => 0), ⟨⟨⟨mem_l (mem_l hx9), tx, (k3 x).trans x2⟩, ⟨mem_l mem_r, tm, (k3 ms).trans ((k2 ms (Ne.symm xms) mcp).trans m1)⟩, ⟨mem_r, tc, (k3 cp).trans c2⟩⟩, fun _ _ _ => rfl, fun k hk => absurd hk (Nat.not_lt_zero k)⟩⟩, fun a ha => mem_l (mem_l ha), kk9, nn9⟩) d_P_init_32
