/-! The reference: sum, store -/
theorem stOK_mem {n : Nat} {mo : Nat → Int32} {om : Nat → Nat} {al : Nat} {bs : Nat → Nat → Nat} (hs : stOK n mo om al bs) {k : Nat} {b : Nat → Nat} (h1 : ∀ j, 65536 * cnt om al k ≤ j → b j = 0) (h2 : ∀ j, b j < 256) : stOK n mo om al (va_up bs k b) := by
  obtain ⟨a1, a2, a3, a4, a5, a6⟩ := hs
  refine ⟨a1, a2, a3, a4, fun k2 j hj => ?_, fun k2 j => ?_⟩
  · by_cases q : k2 = k
    · subst q; rw [va_up_self]; exact h1 j hj
    · rw [va_up_ne _ _ q]; exact a5 k2 j hj
  · by_cases q : k2 = k
    · subst q; rw [va_up_self]; exact h2 j
    · rw [va_up_ne _ _ q]; exact a6 k2 j
theorem putN_ok {bs : Nat → Nat} {P V c : Nat} (h1 : ∀ j, c ≤ j → bs j = 0) (h2 : ∀ j, bs j < 256) : ∀ i, P + i ≤ c → (∀ j, c ≤ j → putN bs P V i j = 0) ∧ ∀ j, putN bs P V i j < 256
  | 0, _ => ⟨h1, h2⟩
  | i + 1, h => by
    obtain ⟨g1, g2⟩ := putN_ok (P := P) (V := V) h1 h2 i (by omega)
    refine ⟨fun j hj => ?_, fun j => ?_⟩
    · show va_up (putN bs P V i) (P + i) _ j = 0
      rw [va_up_ne _ _ (by omega)]; exact g1 j hj
    · show va_up (putN bs P V i) (P + i) _ j < 256
      by_cases q : j = P + i
      · rw [q, va_up_self]; omega
      · rw [va_up_ne _ _ q]; exact g2 j
theorem cpN_s (bs : Nat → Nat) (P i : Nat) (src : Nat → Nat) : va_up (cpN bs P i src) (P + i) (src i) = cpN bs P (i + 1) src := by
  funext j
  by_cases q : j = P + i
  · rw [q, va_up_self, cpN_in (by omega)]
    congr 1; omega
  · rw [va_up_ne _ _ q]
    by_cases q2 : P ≤ j ∧ j < P + i
    · rw [cpN_in q2, cpN_in (by omega)]
    · rw [cpN_out q2, cpN_out (by omega)]
theorem cpN_ok {bs src : Nat → Nat} {P c : Nat} (h1 : ∀ j, c ≤ j → bs j = 0) (h2 : ∀ j, bs j < 256) (h3 : ∀ j, src j < 256) (i : Nat) (h : P + i ≤ c) : (∀ j, c ≤ j → cpN bs P i src j = 0) ∧ ∀ j, cpN bs P i src j < 256 :=
  ⟨fun j hj => by rw [cpN_out (by omega)]; exact h1 j hj, fun j => cpN_lt h2 (fun z _ => h3 z) j⟩
theorem upk {bs : Nat → Nat → Nat} {k p v : Nat} {b : Nat → Nat} : va_up (va_up bs k b) k (va_up ((va_up bs k b) k) p v) = va_up bs k (va_up b p v) := by rw [bx_uu, va_up_self]
set_option maxHeartbeats 4000000 in
set_option maxRecDepth 100000 in
theorem lp_dsum {p : Program} {l : Launch} {e : Env} {R : Room} {s : State} {m : MethodId} {args : Array Value} {below : List Frame} {meth : Method} {c : Code} {Q : State → Prop} {A : Nat → Prop} {D : va_G} {kc : Nat → ClassId} {c0 : Cond} {ret : Option FieldType} {L : List Nat} {f : Nat → va_E} {d mst ow ix bb cpy : Nat} {gb : Nat → Option Nat} {hm9 ho9 hi9 hc9 : Nat → Int32} {tg : Nat → Nat × Nat} {nm : Nat} {mo : Nat → Int32} {om : Nat → Nat} {al : Nat} {bs : Nat → Nat → Nat} (hg : modG kc L f tg d mst ow ix bb cpy gb hm9 ho9 hi9 hc9 0 nm mo om al bs) (hs : stOK nm mo om al bs) {cells slots : Nat} (hcs : cells ≤ R.cells ∧ slots ≤ R.slots) (k : Nat) (hk : k < nm) (P nb : Nat) (hP : P + nb ≤ 65536 * cnt om al k) (hnb : nb ≤ 65536) (hC : Kx p m c b_D_sum 6 s args c0 R_D meth ret D kc A) (hRf : 2 ≤ R.frames) (hRl : 50 ≤ R.locals)
    (kont : ∀ (H : Heap) (locs : List Loc) (ls : Array Slot), pw D Cls A s.heap H locs L f → lv_has ls 6 [(4, .int (wsum (bs k) P (nI nb) nb))] → W p l e R s m args below meth c H locs cells slots Q (F0 m 88 ls [])) :
    ∀ (n : Nat) (i : Nat) (H : Heap) (locs : List Loc) (ls : Array Slot), i ≤ nb → nb + 1 ≤ i + n → pw D Cls A s.heap H locs L f → lv_has ls 6 [(5, .int (nI i)), (4, .int (wsum (bs k) P (nI nb) i)), (0, .ref d), (1, .int (nI k)), (2, .int (nI P)), (3, .int (nI nb))] → W p l e R s m args below meth c H locs cells slots Q (F0 m 48 ls []) := by
  obtain ⟨⟨⟨hx, hb, hml, hown, hts⟩, hret9, hlocks⟩, hK, hE, hA⟩ := id hC
  intro n
  induction n with
  | zero => intro i H locs ls hi hin hw hl; exact absurd hin (by omega)
  | succ n ih =>
    intro i H locs ls hi hin hw hl
    obtain ⟨⟨hdL, htd, hfd⟩, ⟨hmL, htm, hfm⟩, ⟨hoL, hto, hfo⟩, ⟨hiL, hti, hfi⟩, ⟨hbL, htb, hfb⟩, ⟨hcL, htc, hfc⟩, hk1, hk2, hk3⟩ := id hg
    obtain ⟨hs1, hs2, hs3, hs4, hs5, hs6⟩ := id hs
    have hcl := cnt_le om k al
    refine lv_iload hx hb d_D_sum_48 (lv_at hl 0 rfl) ?_
    refine lv_iload_n hx hb d_D_sum_50 rfl (lv_at hl 5 rfl) ?_
    refine lv_icmp_ge (tgt := 88) hx hb d_D_sum_51 (by decide) (fun c1 => ?_) (fun c1 => ?_)
    · have e : i = nb := by
        rcases Nat.lt_or_ge i nb with q | q
        · exact absurd c1 (nI_ge q (by omega))
        · omega
      subst e
      exact kont H locs ls hw (lv_sub hl [1] rfl)
    · have hlt : i < nb := by
        rcases Nat.lt_or_ge i nb with q | q
        · exact q
        · exact absurd (nI_le q (by omega)) c1
      refine lv_aload_n hx hb d_D_sum_54 rfl (lv_at hl 2 rfl) ?_
      refine get_D hC hw hdL hfd 0 (by decide) k_fl_D_28 rfl d_D_sum_55 ?_
      refine lv_if_ne (tgt := 88) hx hb d_D_sum_58 (by decide) (fun c2 => (c2 rfl).elim) (fun c2 => ?_)
      refine lv_iload hx hb d_D_sum_61 (lv_at hl 1 rfl) ?_
      refine lv_aload_n hx hb d_D_sum_63 rfl (lv_at hl 2 rfl) ?_
      refine lv_iload_n hx hb d_D_sum_64 rfl (lv_at hl 3 rfl) ?_
      refine lv_iload_n hx hb d_D_sum_65 rfl (lv_at hl 4 rfl) ?_
      refine lv_i2l hx hb d_D_sum_66 rfl ?_
      refine tp_l (v := lN P) (nI_toI64 _ (by omega)) ?_
      refine lv_iload hx hb d_D_sum_67 (lv_at hl 0 rfl) ?_
      refine lv_i2l hx hb d_D_sum_69 rfl ?_
      refine tp_l (v := lN i) (nI_toI64 _ (by omega)) ?_
      refine lv_ladd hx hb d_D_sum_70 ?_
      refine tp_l (v := lN (P + i)) (lN_add _ _) ?_
      refine callVi (As := [.int (nI k), .long (lN (P + i))]) (n9 := 2) hC hw (c_D_get l D kc _ _ _ d mst ow ix bb cpy gb hm9 ho9 hi9 hc9 tg 0 nm mo om al bs hg hs k hk (P + i) (by omega)) k_co_D_get k_ml_D_80 k_im_D_get k_se_D_get k_in_D rfl rfl (by decide +kernel) rfl ⟨Nat.le_trans (Nat.le_of_ble_eq_true rfl) hRf, Nat.le_trans (Nat.le_of_ble_eq_true rfl) hRl⟩ hdL hfd rfl hl.1 rfl (Nat.le_of_ble_eq_true rfl) d_D_sum_71 ⟨hcs.1, hcs.2⟩ (fun r9 u H locs hp hw => ?_)
      obtain ⟨rfl, rfl⟩ := hp
      refine lv_iload_n hx hb d_D_sum_74 rfl (lv_at hl 5 rfl) ?_
      refine lv_iload hx hb d_D_sum_75 (lv_at hl 0 rfl) ?_
      refine lv_isub hx hb d_D_sum_77 ?_
      refine lv_imul hx hb d_D_sum_78 ?_
      refine lv_iadd hx hb d_D_sum_79 ?_
      refine lv_istore (lv' := [(4, .int ((wsum (bs k) P (nI nb) i) + ((nI (bs k (P + i))) * ((nI nb) - (nI i))))), (5, .int (nI i)), (0, .ref d), (1, .int (nI k)), (2, .int (nI P)), (3, .int (nI nb))]) hx hb d_D_sum_80 hl (by decide) rfl (fun ls hl => ?_)
      refine lv_iinc (v := nI (i + 1)) (lv' := [(5, .int (nI (i + 1))), (4, .int ((wsum (bs k) P (nI nb) i) + ((nI (bs k (P + i))) * ((nI nb) - (nI i))))), (0, .ref d), (1, .int (nI k)), (2, .int (nI P)), (3, .int (nI nb))]) hx hb d_D_sum_82 hl (k := 1) rfl (nI_1 i) (by decide) rfl (fun ls hl => ?_)
      refine lv_goto (tgt := 48) hx hb d_D_sum_85 (by decide) ?_
      exact ih (i + 1) _ _ _ (by omega) (by omega) hw (lv_sub hl [0, 1, 2, 3, 4, 5] rfl)
set_option maxHeartbeats 4000000 in
set_option maxRecDepth 100000 in
theorem c_D_sum (l : Launch) (D : va_G) (kc : Nat → ClassId) (L : List Nat) (f : Nat → va_E) (sz : Nat) (d mst ow ix bb cpy : Nat) (gb : Nat → Option Nat) (hm9 ho9 hi9 hc9 : Nat → Int32) (tg : Nat → Nat × Nat) (th : Int32) (nm : Nat) (mo : Nat → Int32) (om : Nat → Nat) (al : Nat) (bs : Nat → Nat → Nat) (hg : modG kc L f tg d mst ow ix bb cpy gb hm9 ho9 hi9 hc9 th nm mo om al bs) (hs : stOK nm mo om al bs) (mm fr cn : Int32) : Met l y_D_sum w_D_sum ({ frames := 2, cells := 0, slots := 0, locals := 50 }) (PP D kc L f sz [.ref d, .int mm, .int fr, .int cn]) (Qi D L f sz (fun r u => ∃ t9 tg', modP kc u.1 u.2 tg' d t9 nm mo om al bs ∧ Ext SD L f tg u tg' ∧ ((t9 = 1 ∧ ¬ ((∃ k, k < nm ∧ mm = nI k) ∧ ¬ cn < 0 ∧ cn ≤ 65536)) ∨ (t9 = 2 ∧ ∃ k, k < nm ∧ mm = nI k ∧ ∃ nb, nb ≤ 65536 ∧ cn = nI nb ∧ 0 < nb ∧ ¬ (∃ P, fr = nI P ∧ P + nb ≤ 65536 * cnt om al k)) ∨ (t9 = 0 ∧ ∃ k, k < nm ∧ mm = nI k ∧ ∃ nb, nb ≤ 65536 ∧ cn = nI nb ∧ ((nb = 0 ∧ r = 0) ∨ (0 < nb ∧ ∃ P, fr = nI P ∧ P + nb ≤ 65536 * cnt om al k ∧ r = wsum (bs k) P (nI nb) nb)))))) 0 0 (pA L f sz) := by
  refine kx_met (by decide) (Nat.le_of_ble_eq_true rfl) ?_
  intro p e s m below meth c hC hnm hw hsz ls hl
  subst hsz
  have hl : lv_has ls 6 [(0, .ref d), (1, .int mm), (2, .int fr), (3, .int cn)] := hl
  obtain ⟨⟨⟨hx, hb, hml, hown, hts⟩, hret9, hlocks⟩, hK, hE, hA⟩ := id hC
  obtain ⟨⟨hdL, htd, hfd⟩, ⟨hmL, htm, hfm⟩, ⟨hoL, hto, hfo⟩, ⟨hiL, hti, hfi⟩, ⟨hbL, htb, hfb⟩, ⟨hcL, htc, hfc⟩, hk1, hk2, hk3⟩ := id hg
  obtain ⟨hs1, hs2, hs3, hs4, hs5, hs6⟩ := id hs
  refine lv_aload_n hx hb d_D_sum_0 rfl (lv_at hl 0 rfl) ?_
  refine lv_aload_n hx hb d_D_sum_1 rfl (lv_at hl 0 rfl) ?_
  refine lv_iload_n hx hb d_D_sum_2 rfl (lv_at hl 1 rfl) ?_
  refine callVi (As := [.int mm]) (n9 := 1) hC hw (c_D_isMemory l D kc _ _ _ d mst ow ix bb cpy gb hm9 ho9 hi9 hc9 tg th nm mo om al bs hg hs mm) k_co_D_isMemory k_ml_D_51 k_im_D_isMemory k_se_D_isMemory k_in_D rfl rfl (by decide +kernel) rfl ⟨Nat.le_of_ble_eq_true rfl, Nat.le_of_ble_eq_true rfl⟩ hdL hfd rfl hl.1 rfl (Nat.le_of_ble_eq_true rfl) d_D_sum_3 ⟨Nat.le_of_ble_eq_true rfl, Nat.le_of_ble_eq_true rfl⟩ (fun r9 u H locs hp hw => ?_)
  obtain ⟨hp, rfl⟩ := hp
  rcases hp with ⟨rfl, k, hkn, rfl⟩ | ⟨rfl, hno⟩
  · refine lv_if_eq (tgt := 19) hx hb d_D_sum_6 (by decide) (fun c0 => ((by decide : ¬ (1 : Int32) = 0) c0).elim) (fun c0 => ?_)
    have hcl := cnt_le om k al
    refine lv_iload_n hx hb d_D_sum_9 rfl (lv_at hl 3 rfl) ?_
    refine lv_if_lt (tgt := 19) hx hb d_D_sum_10 (by decide) (fun c1 => ?_) (fun c1 => ?_)
    · refine lv_iconst (v := 1) hx hb d_D_sum_19 (by decide) ?_
      refine lv_goto (tgt := 39) hx hb d_D_sum_20 (by decide) ?_
      refine put_D hC hw hdL hfd 0 (by decide) k_fl_D_28 rfl rfl rfl (Nat.le_of_ble_eq_true rfl) d_D_sum_39 (fun H locs hw => ?_)
      obtain ⟨f1, hf1⟩ : ∃ F, F = va_up f d (.inr (3, [.int 1, .int (nI nm), .ref mst, .int (nI al), .ref ow, .ref ix, .ref bb, .ref cpy])) := ⟨_, rfl⟩
      have hw := pw_as (f' := f1) hw rfl hf1.symm
      obtain ⟨hg1, he1⟩ := mod_th hg 1
      rw [← hf1] at hg1 he1
      obtain ⟨⟨hdL1, htd1, hfd1⟩, ⟨hmL1, htm1, hfm1⟩, ⟨hoL1, hto1, hfo1⟩, ⟨hiL1, hti1, hfi1⟩, ⟨hbL1, htb1, hfb1⟩, ⟨hcL1, htc1, hfc1⟩, hk11, hk21, hk31⟩ := id hg1
      refine lv_iconst (v := 0) hx hb d_D_sum_42 (by decide) ?_
      refine lv_istore (lv' := [(4, .int 0), (0, .ref d), (1, .int (nI k)), (2, .int fr), (3, .int cn)]) hx hb d_D_sum_43 hl (by decide) rfl (fun ls hl => ?_)
      refine lv_iconst (v := 0) hx hb d_D_sum_45 (by decide) ?_
      refine lv_istore (lv' := [(5, .int 0), (4, .int 0), (0, .ref d), (1, .int (nI k)), (2, .int fr), (3, .int cn)]) hx hb d_D_sum_46 hl (by decide) rfl (fun ls hl => ?_)
      refine lv_iload hx hb d_D_sum_48 (lv_at hl 0 rfl) ?_
      refine lv_iload_n hx hb d_D_sum_50 rfl (lv_at hl 5 rfl) ?_
      refine lv_icmp_ge (tgt := 88) hx hb d_D_sum_51 (by decide) (fun cz => ?_) (fun cz => ?_)
      · refine lv_iload hx hb d_D_sum_88 (lv_at hl 1 rfl) ?_
        exact pg_iret hC.1 hw (⟨1, tg, ⟨mst, ow, ix, bb, cpy, gb, hm9, ho9, hi9, hc9, hg1⟩, he1, Or.inl ⟨rfl, fun h => h.2.1 c1⟩⟩) d_D_sum_90
      · refine lv_aload_n hx hb d_D_sum_54 rfl (lv_at hl 2 rfl) ?_
        refine get_D hC hw hdL1 hfd1 0 (by decide) k_fl_D_28 rfl d_D_sum_55 ?_
        refine lv_if_ne (tgt := 88) hx hb d_D_sum_58 (by decide) (fun cy => ?_) (fun cy => ((by decide : ¬ (1 : Int32) = 0) cy).elim)
        refine lv_iload hx hb d_D_sum_88 (lv_at hl 1 rfl) ?_
        exact pg_iret hC.1 hw (⟨1, tg, ⟨mst, ow, ix, bb, cpy, gb, hm9, ho9, hi9, hc9, hg1⟩, he1, Or.inl ⟨rfl, fun h => h.2.1 c1⟩⟩) d_D_sum_90
    · refine lv_iload_n hx hb d_D_sum_13 rfl (lv_at hl 3 rfl) ?_
      refine lv_ldc (v := 65536) hx hb hown (hts _ (gg_mem k_cn_D_46)) d_D_sum_14 ?_
      refine lv_icmp_le (tgt := 23) hx hb d_D_sum_16 (by decide) (fun c2 => ?_) (fun c2 => ?_)
      · obtain ⟨nb, hnb, rfl⟩ : ∃ j, j ≤ 65536 ∧ cn = nI j := nI_of2 (M := 65536) (n := 65536) (by decide) c1 c2
        refine lv_aload_n hx hb d_D_sum_23 rfl (lv_at hl 0 rfl) ?_
        refine lv_iload_n hx hb d_D_sum_24 rfl (lv_at hl 1 rfl) ?_
        refine lv_iload_n hx hb d_D_sum_25 rfl (lv_at hl 2 rfl) ?_
        refine lv_i2l hx hb d_D_sum_26 rfl ?_
        refine lv_iload_n hx hb d_D_sum_27 rfl (lv_at hl 3 rfl) ?_
        refine callVi (As := [.int (nI k), .long fr.toInt64, .int (nI nb)]) (n9 := 3) hC hw (c_D_isThere l D kc _ _ _ d mst ow ix bb cpy gb hm9 ho9 hi9 hc9 tg th nm mo om al bs hg hs k hkn fr.toInt64 nb hnb) k_co_D_isThere k_ml_D_76 k_im_D_isThere k_se_D_isThere k_in_D rfl rfl (by decide +kernel) rfl ⟨Nat.le_of_ble_eq_true rfl, Nat.le_of_ble_eq_true rfl⟩ hdL hfd rfl hl.1 rfl (Nat.le_of_ble_eq_true rfl) d_D_sum_28 ⟨Nat.le_of_ble_eq_true rfl, Nat.le_of_ble_eq_true rfl⟩ (fun r9 u H locs hp hw => ?_)
        obtain ⟨hp, rfl⟩ := hp
        rw [thereP_fr hnb (by omega)] at hp
        rcases hp with ⟨rfl, hth⟩ | ⟨rfl, hth⟩
        · refine lv_if_ne (tgt := 38) hx hb d_D_sum_31 (by decide) (fun c3 => ?_) (fun c3 => ((by decide : ¬ (1 : Int32) = 0) c3).elim)
          refine lv_iconst (v := 0) hx hb d_D_sum_38 (by decide) ?_
          refine put_D hC hw hdL hfd 0 (by decide) k_fl_D_28 rfl rfl rfl (Nat.le_of_ble_eq_true rfl) d_D_sum_39 (fun H locs hw => ?_)
          obtain ⟨f1, hf1⟩ : ∃ F, F = va_up f d (.inr (3, [.int 0, .int (nI nm), .ref mst, .int (nI al), .ref ow, .ref ix, .ref bb, .ref cpy])) := ⟨_, rfl⟩
          have hw := pw_as (f' := f1) hw rfl hf1.symm
          obtain ⟨hg1, he1⟩ := mod_th hg 0
          rw [← hf1] at hg1 he1
          obtain ⟨⟨hdL1, htd1, hfd1⟩, ⟨hmL1, htm1, hfm1⟩, ⟨hoL1, hto1, hfo1⟩, ⟨hiL1, hti1, hfi1⟩, ⟨hbL1, htb1, hfb1⟩, ⟨hcL1, htc1, hfc1⟩, hk11, hk21, hk31⟩ := id hg1
          refine lv_iconst (v := 0) hx hb d_D_sum_42 (by decide) ?_
          refine lv_istore (lv' := [(4, .int 0), (0, .ref d), (1, .int (nI k)), (2, .int fr), (3, .int (nI nb))]) hx hb d_D_sum_43 hl (by decide) rfl (fun ls hl => ?_)
          refine lv_iconst (v := 0) hx hb d_D_sum_45 (by decide) ?_
          refine lv_istore (lv' := [(5, .int 0), (4, .int 0), (0, .ref d), (1, .int (nI k)), (2, .int fr), (3, .int (nI nb))]) hx hb d_D_sum_46 hl (by decide) rfl (fun ls hl => ?_)
          rcases Nat.eq_zero_or_pos nb with hz | hnz
          · subst hz
            refine lv_iload hx hb d_D_sum_48 (lv_at hl 0 rfl) ?_
            refine lv_iload_n hx hb d_D_sum_50 rfl (lv_at hl 5 rfl) ?_
            refine lv_icmp_ge (tgt := 88) hx hb d_D_sum_51 (by decide) (fun cz => ?_) (fun cz => (cz (by decide)).elim)
            refine lv_iload hx hb d_D_sum_88 (lv_at hl 1 rfl) ?_
            exact pg_iret hC.1 hw (⟨0, tg, ⟨mst, ow, ix, bb, cpy, gb, hm9, ho9, hi9, hc9, hg1⟩, he1, Or.inr (Or.inr ⟨rfl, k, hkn, rfl, 0, by decide, rfl, Or.inl ⟨rfl, rfl⟩⟩)⟩) d_D_sum_90
          · obtain ⟨P, rfl, hP⟩ : ∃ P, fr = nI P ∧ P + nb ≤ 65536 * cnt om al k := hth.elim (fun e => absurd e (by omega)) id
            refine lp_dsum hg1 hs ⟨Nat.zero_le _, Nat.zero_le _⟩ k hkn P nb hP hnb hC (Nat.le_of_ble_eq_true rfl) (Nat.le_of_ble_eq_true rfl) (fun H locs ls hw hl => ?_) (nb + 1) 0 _ _ _ (Nat.zero_le _) (by omega) hw (lv_sub hl [0, 1, 2, 3, 4, 5] rfl)
            refine lv_iload hx hb d_D_sum_88 (lv_at hl 0 rfl) ?_
            exact pg_iret hC.1 hw (⟨0, tg, ⟨mst, ow, ix, bb, cpy, gb, hm9, ho9, hi9, hc9, hg1⟩, he1, Or.inr (Or.inr ⟨rfl, k, hkn, rfl, nb, hnb, rfl, Or.inr ⟨hnz, P, rfl, hP, rfl⟩⟩)⟩) d_D_sum_90
        · refine lv_if_ne (tgt := 38) hx hb d_D_sum_31 (by decide) (fun c3 => (c3 rfl).elim) (fun c3 => ?_)
          refine lv_iconst (v := 2) hx hb d_D_sum_34 (by decide) ?_
          refine lv_goto (tgt := 39) hx hb d_D_sum_35 (by decide) ?_
          refine put_D hC hw hdL hfd 0 (by decide) k_fl_D_28 rfl rfl rfl (Nat.le_of_ble_eq_true rfl) d_D_sum_39 (fun H locs hw => ?_)
          obtain ⟨f1, hf1⟩ : ∃ F, F = va_up f d (.inr (3, [.int 2, .int (nI nm), .ref mst, .int (nI al), .ref ow, .ref ix, .ref bb, .ref cpy])) := ⟨_, rfl⟩
          have hw := pw_as (f' := f1) hw rfl hf1.symm
          obtain ⟨hg1, he1⟩ := mod_th hg 2
          rw [← hf1] at hg1 he1
          obtain ⟨⟨hdL1, htd1, hfd1⟩, ⟨hmL1, htm1, hfm1⟩, ⟨hoL1, hto1, hfo1⟩, ⟨hiL1, hti1, hfi1⟩, ⟨hbL1, htb1, hfb1⟩, ⟨hcL1, htc1, hfc1⟩, hk11, hk21, hk31⟩ := id hg1
          refine lv_iconst (v := 0) hx hb d_D_sum_42 (by decide) ?_
          refine lv_istore (lv' := [(4, .int 0), (0, .ref d), (1, .int (nI k)), (2, .int fr), (3, .int (nI nb))]) hx hb d_D_sum_43 hl (by decide) rfl (fun ls hl => ?_)
          refine lv_iconst (v := 0) hx hb d_D_sum_45 (by decide) ?_
          refine lv_istore (lv' := [(5, .int 0), (4, .int 0), (0, .ref d), (1, .int (nI k)), (2, .int fr), (3, .int (nI nb))]) hx hb d_D_sum_46 hl (by decide) rfl (fun ls hl => ?_)
          refine lv_iload hx hb d_D_sum_48 (lv_at hl 0 rfl) ?_
          refine lv_iload_n hx hb d_D_sum_50 rfl (lv_at hl 5 rfl) ?_
          refine lv_icmp_ge (tgt := 88) hx hb d_D_sum_51 (by decide) (fun cz => ?_) (fun cz => ?_)
          · refine lv_iload hx hb d_D_sum_88 (lv_at hl 1 rfl) ?_
            exact pg_iret hC.1 hw (⟨2, tg, ⟨mst, ow, ix, bb, cpy, gb, hm9, ho9, hi9, hc9, hg1⟩, he1, Or.inr (Or.inl ⟨rfl, k, hkn, rfl, nb, hnb, rfl, Nat.pos_of_ne_zero (fun e => hth (Or.inl e)), fun h => hth (Or.inr h)⟩)⟩) d_D_sum_90
          · refine lv_aload_n hx hb d_D_sum_54 rfl (lv_at hl 2 rfl) ?_
            refine get_D hC hw hdL1 hfd1 0 (by decide) k_fl_D_28 rfl d_D_sum_55 ?_
            refine lv_if_ne (tgt := 88) hx hb d_D_sum_58 (by decide) (fun cy => ?_) (fun cy => ((by decide : ¬ (2 : Int32) = 0) cy).elim)
            refine lv_iload hx hb d_D_sum_88 (lv_at hl 1 rfl) ?_
            exact pg_iret hC.1 hw (⟨2, tg, ⟨mst, ow, ix, bb, cpy, gb, hm9, ho9, hi9, hc9, hg1⟩, he1, Or.inr (Or.inl ⟨rfl, k, hkn, rfl, nb, hnb, rfl, Nat.pos_of_ne_zero (fun e => hth (Or.inl e)), fun h => hth (Or.inr h)⟩)⟩) d_D_sum_90
      · refine lv_iconst (v := 1) hx hb d_D_sum_19 (by decide) ?_
        refine lv_goto (tgt := 39) hx hb d_D_sum_20 (by decide) ?_
        refine put_D hC hw hdL hfd 0 (by decide) k_fl_D_28 rfl rfl rfl (Nat.le_of_ble_eq_true rfl) d_D_sum_39 (fun H locs hw => ?_)
        obtain ⟨f1, hf1⟩ : ∃ F, F = va_up f d (.inr (3, [.int 1, .int (nI nm), .ref mst, .int (nI al), .ref ow, .ref ix, .ref bb, .ref cpy])) := ⟨_, rfl⟩
        have hw := pw_as (f' := f1) hw rfl hf1.symm
        obtain ⟨hg1, he1⟩ := mod_th hg 1
        rw [← hf1] at hg1 he1
        obtain ⟨⟨hdL1, htd1, hfd1⟩, ⟨hmL1, htm1, hfm1⟩, ⟨hoL1, hto1, hfo1⟩, ⟨hiL1, hti1, hfi1⟩, ⟨hbL1, htb1, hfb1⟩, ⟨hcL1, htc1, hfc1⟩, hk11, hk21, hk31⟩ := id hg1
        refine lv_iconst (v := 0) hx hb d_D_sum_42 (by decide) ?_
        refine lv_istore (lv' := [(4, .int 0), (0, .ref d), (1, .int (nI k)), (2, .int fr), (3, .int cn)]) hx hb d_D_sum_43 hl (by decide) rfl (fun ls hl => ?_)
        refine lv_iconst (v := 0) hx hb d_D_sum_45 (by decide) ?_
        refine lv_istore (lv' := [(5, .int 0), (4, .int 0), (0, .ref d), (1, .int (nI k)), (2, .int fr), (3, .int cn)]) hx hb d_D_sum_46 hl (by decide) rfl (fun ls hl => ?_)
        refine lv_iload hx hb d_D_sum_48 (lv_at hl 0 rfl) ?_
        refine lv_iload_n hx hb d_D_sum_50 rfl (lv_at hl 5 rfl) ?_
        refine lv_icmp_ge (tgt := 88) hx hb d_D_sum_51 (by decide) (fun cz => ?_) (fun cz => ?_)
        · refine lv_iload hx hb d_D_sum_88 (lv_at hl 1 rfl) ?_
          exact pg_iret hC.1 hw (⟨1, tg, ⟨mst, ow, ix, bb, cpy, gb, hm9, ho9, hi9, hc9, hg1⟩, he1, Or.inl ⟨rfl, fun h => c2 h.2.2⟩⟩) d_D_sum_90
        · refine lv_aload_n hx hb d_D_sum_54 rfl (lv_at hl 2 rfl) ?_
          refine get_D hC hw hdL1 hfd1 0 (by decide) k_fl_D_28 rfl d_D_sum_55 ?_
          refine lv_if_ne (tgt := 88) hx hb d_D_sum_58 (by decide) (fun cy => ?_) (fun cy => ((by decide : ¬ (1 : Int32) = 0) cy).elim)
          refine lv_iload hx hb d_D_sum_88 (lv_at hl 1 rfl) ?_
          exact pg_iret hC.1 hw (⟨1, tg, ⟨mst, ow, ix, bb, cpy, gb, hm9, ho9, hi9, hc9, hg1⟩, he1, Or.inl ⟨rfl, fun h => c2 h.2.2⟩⟩) d_D_sum_90
  · refine lv_if_eq (tgt := 19) hx hb d_D_sum_6 (by decide) (fun c0 => ?_) (fun c0 => (c0 rfl).elim)
    refine lv_iconst (v := 1) hx hb d_D_sum_19 (by decide) ?_
    refine lv_goto (tgt := 39) hx hb d_D_sum_20 (by decide) ?_
    refine put_D hC hw hdL hfd 0 (by decide) k_fl_D_28 rfl rfl rfl (Nat.le_of_ble_eq_true rfl) d_D_sum_39 (fun H locs hw => ?_)
    obtain ⟨f1, hf1⟩ : ∃ F, F = va_up f d (.inr (3, [.int 1, .int (nI nm), .ref mst, .int (nI al), .ref ow, .ref ix, .ref bb, .ref cpy])) := ⟨_, rfl⟩
    have hw := pw_as (f' := f1) hw rfl hf1.symm
    obtain ⟨hg1, he1⟩ := mod_th hg 1
    rw [← hf1] at hg1 he1
    obtain ⟨⟨hdL1, htd1, hfd1⟩, ⟨hmL1, htm1, hfm1⟩, ⟨hoL1, hto1, hfo1⟩, ⟨hiL1, hti1, hfi1⟩, ⟨hbL1, htb1, hfb1⟩, ⟨hcL1, htc1, hfc1⟩, hk11, hk21, hk31⟩ := id hg1
    refine lv_iconst (v := 0) hx hb d_D_sum_42 (by decide) ?_
    refine lv_istore (lv' := [(4, .int 0), (0, .ref d), (1, .int mm), (2, .int fr), (3, .int cn)]) hx hb d_D_sum_43 hl (by decide) rfl (fun ls hl => ?_)
    refine lv_iconst (v := 0) hx hb d_D_sum_45 (by decide) ?_
    refine lv_istore (lv' := [(5, .int 0), (4, .int 0), (0, .ref d), (1, .int mm), (2, .int fr), (3, .int cn)]) hx hb d_D_sum_46 hl (by decide) rfl (fun ls hl => ?_)
    refine lv_iload hx hb d_D_sum_48 (lv_at hl 0 rfl) ?_
    refine lv_iload_n hx hb d_D_sum_50 rfl (lv_at hl 5 rfl) ?_
    refine lv_icmp_ge (tgt := 88) hx hb d_D_sum_51 (by decide) (fun cz => ?_) (fun cz => ?_)
    · refine lv_iload hx hb d_D_sum_88 (lv_at hl 1 rfl) ?_
      exact pg_iret hC.1 hw (⟨1, tg, ⟨mst, ow, ix, bb, cpy, gb, hm9, ho9, hi9, hc9, hg1⟩, he1, Or.inl ⟨rfl, fun h => hno h.1⟩⟩) d_D_sum_90
    · refine lv_aload_n hx hb d_D_sum_54 rfl (lv_at hl 2 rfl) ?_
      refine get_D hC hw hdL1 hfd1 0 (by decide) k_fl_D_28 rfl d_D_sum_55 ?_
      refine lv_if_ne (tgt := 88) hx hb d_D_sum_58 (by decide) (fun cy => ?_) (fun cy => ((by decide : ¬ (1 : Int32) = 0) cy).elim)
      refine lv_iload hx hb d_D_sum_88 (lv_at hl 1 rfl) ?_
      exact pg_iret hC.1 hw (⟨1, tg, ⟨mst, ow, ix, bb, cpy, gb, hm9, ho9, hi9, hc9, hg1⟩, he1, Or.inl ⟨rfl, fun h => hno h.1⟩⟩) d_D_sum_90
set_option maxHeartbeats 4000000 in
set_option maxRecDepth 100000 in
theorem lp_dstore {p : Program} {l : Launch} {e : Env} {R : Room} {s : State} {m : MethodId} {args : Array Value} {below : List Frame} {meth : Method} {c : Code} {Q : State → Prop} {A : Nat → Prop} {D : va_G} {kc : Nat → ClassId} {c0 : Cond} {ret : Option FieldType} {L : List Nat} {f : Nat → va_E} {d mst ow ix bb cpy : Nat} {hm9 ho9 hi9 hc9 : Nat → Int32} {tg : Nat → Nat × Nat} {nm : Nat} {mo : Nat → Int32} {om : Nat → Nat} {al : Nat} {bs : Nat → Nat → Nat} (hs : stOK nm mo om al bs) (hcs : 2 ≤ R.cells ∧ 2048 ≤ R.slots) (k : Nat) (hk : k < nm) (P0 nb : Nat) (x : Int64) (hP : P0 + nb ≤ 65536 * cnt om al k) (hnb : nb ≤ 8) (hC : Kx p m c b_D_store 11 s args c0 R_D meth ret D kc A) (hRf : 2 ≤ R.frames) (hRl : 51 ≤ R.locals)
    (kont : ∀ (c9 : Nat) (L' : List Nat) (f' : Nat → va_E) (tg' : Nat → Nat × Nat) (gb' : Nat → Option Nat) (H : Heap) (locs : List Loc) (ls : Array Slot), c9 ≤ 2 → modG kc L' f' tg' d mst ow ix bb cpy gb' hm9 ho9 hi9 hc9 0 nm mo om al (va_up bs k (putN (bs k) P0 (uL x) nb)) → Ext SD L f tg (L', f') tg' → pw D Cls A s.heap H locs L' f' → W p l e R s m args below meth c H locs c9 (1024 * c9) Q (F0 m 102 ls [])) :
    ∀ (n : Nat) (i : Nat) (c9 : Nat) (L' : List Nat) (f' : Nat → va_E) (tg' : Nat → Nat × Nat) (gb' : Nat → Option Nat) (H : Heap) (locs : List Loc) (ls : Array Slot), i ≤ nb → nb + 1 ≤ i + n → (c9 ≤ (P0 + i) / 1024 - P0 / 1024 ∨ (c9 ≤ (P0 + i) / 1024 - P0 / 1024 + 1 ∧ ∀ R, isRow om al k (P0 + i) R → gb' R ≠ none)) → modG kc L' f' tg' d mst ow ix bb cpy gb' hm9 ho9 hi9 hc9 0 nm mo om al (va_up bs k (putN (bs k) P0 (uL x) i)) → Ext SD L f tg (L', f') tg' → pw D Cls A s.heap H locs L' f' → lv_has ls 11 [(10, .int (nI i)), (0, .ref d), (1, .int (nI k)), (9, .int (nI nb)), (7, .long (lN P0)), (5, .long x)] → W p l e R s m args below meth c H locs c9 (1024 * c9) Q (F0 m 58 ls []) := by
  obtain ⟨⟨⟨hx, hb, hml, hown, hts⟩, hret9, hlocks⟩, hK, hE, hA⟩ := id hC
  intro n
  induction n with
  | zero => intro i c9 L' f' tg' gb' H locs ls hi hin hcn hm he hw hl; exact absurd hin (by omega)
  | succ n ih =>
    intro i c9 L' f' tg' gb' H locs ls hi hin hcn hm he hw hl
    obtain ⟨⟨hdL, htd, hfd⟩, -⟩ := id hm
    obtain ⟨hs1, hs2, hs3, hs4, hs5, hs6⟩ := id hs
    have hcl := cnt_le om k al
    refine lv_iload hx hb d_D_store_58 (lv_at hl 0 rfl) ?_
    refine lv_iload hx hb d_D_store_60 (lv_at hl 3 rfl) ?_
    refine lv_icmp_ge (tgt := 102) hx hb d_D_store_62 (by decide) (fun c1 => ?_) (fun c1 => ?_)
    · have e : i = nb := by
        rcases Nat.lt_or_ge i nb with q | q
        · exact absurd c1 (nI_ge q (by omega))
        · omega
      subst e
      exact kont c9 L' f' tg' gb' H locs ls (by omega) hm he hw
    · have hlt : i < nb := by
        rcases Nat.lt_or_ge i nb with q | q
        · exact q
        · exact absurd (nI_le q (by omega)) c1
      refine lv_aload_n hx hb d_D_store_65 rfl (lv_at hl 1 rfl) ?_
      refine get_D hC hw hdL hfd 0 (by decide) k_fl_D_28 rfl d_D_store_66 ?_
      refine lv_if_ne (tgt := 102) hx hb d_D_store_69 (by decide) (fun c2 => (c2 rfl).elim) (fun c2 => ?_)
      refine lv_aload_n hx hb d_D_store_72 rfl (lv_at hl 1 rfl) ?_
      refine lv_iload_n hx hb d_D_store_73 rfl (lv_at hl 2 rfl) ?_
      refine lv_lload hx hb d_D_store_74 (lv_at hl 4 rfl) ?_
      refine lv_iload hx hb d_D_store_76 (lv_at hl 0 rfl) ?_
      refine lv_i2l hx hb d_D_store_78 rfl ?_
      refine tp_l (v := lN i) (nI_toI64 _ (by omega)) ?_
      refine lv_ladd hx hb d_D_store_79 ?_
      refine tp_l (v := lN (P0 + i)) (lN_add _ _) ?_
      refine lv_lload hx hb d_D_store_80 (lv_at hl 5 rfl) ?_
      refine lv_bipush (v := 8) hx hb d_D_store_82 (by decide) ?_
      refine lv_iload hx hb d_D_store_84 (lv_at hl 0 rfl) ?_
      refine lv_imul hx hb d_D_store_86 ?_
      refine lv_lshr hx hb d_D_store_87 rfl ?_
      refine lv_ldc2 (v := 255) hx hb hown (hts _ (gg_mem k_cn_D_83)) d_D_store_88 ?_
      refine lv_land hx hb d_D_store_91 ?_
      refine lv_l2i hx hb d_D_store_92 rfl ?_
      refine tp_i (v := nI (uL x / 2 ^ (8 * i) % 256)) (byte_s x (by omega)) ?_
      obtain ⟨R0, hR0⟩ := isRow_ex (om := om) (al := al) (k := k) (p := P0 + i) (by omega)
      by_cases hg9 : gb' R0 = none
      · have hc2 : c9 ≤ (P0 + i) / 1024 - P0 / 1024 := by
          rcases hcn with q | q
          · exact q
          · exact absurd hg9 (q.2 R0 hR0)
        have hall : ∀ R, isRow om al k (P0 + i) R → gb' R = none := fun R h => by rw [isRow_un h hR0 rfl]; exact hg9
        rcases Nat.eq_zero_or_pos (uL x / 2 ^ (8 * i) % 256) with hv0 | hvp
        · refine tp_i (v := nI 0) (by rw [hv0]) ?_
          refine callVv (As := [.int (nI k), .long (lN (P0 + i)), .int (nI 0)]) (n9 := 3) hC hw (c_D_put_zero l D kc _ _ _ d mst ow ix bb cpy gb' hm9 ho9 hi9 hc9 tg' 0 nm mo om al (va_up bs k (putN (bs k) P0 (uL x) i)) hm (stOK_mem hs (putN_ok (hs5 k) (hs6 k) i (by omega)).1 (putN_ok (hs5 k) (hs6 k) i (by omega)).2) k hk (P0 + i) (by omega) hall) k_co_D_put k_ml_D_85 k_im_D_put k_se_D_put k_in_D rfl rfl (by decide +kernel) rfl ⟨Nat.le_trans (Nat.le_of_ble_eq_true rfl) hRf, Nat.le_trans (Nat.le_of_ble_eq_true rfl) hRl⟩ hdL hfd rfl hl.1 rfl (Nat.le_of_ble_eq_true rfl) d_D_store_93 ⟨(by omega), (by omega)⟩ (fun u H locs hp hw => ?_)
          obtain ⟨tg2, gb2, hm2, hkp, hgn, he2⟩ := hp
          obtain ⟨L2, f2⟩ := u
          dsimp only at hw hm2 he2
          rw [upk] at hm2
          rw [← hv0] at hm2
          refine lv_iinc (v := nI (i + 1)) (lv' := [(10, .int (nI (i + 1))), (0, .ref d), (1, .int (nI k)), (9, .int (nI nb)), (7, .long (lN P0)), (5, .long x)]) hx hb d_D_store_96 hl (k := 0) rfl (nI_1 i) (by decide) rfl (fun ls hl => ?_)
          refine lv_goto (tgt := 58) hx hb d_D_store_99 (by decide) ?_
          refine ih (i + 1) c9 L2 f2 tg2 gb2 _ _ _ (by omega) (by omega) ?_ hm2 (he.tr he2) hw (lv_sub hl [0, 1, 2, 3, 4, 5] rfl)
          left
          omega
        · refine callVv (As := [.int (nI k), .long (lN (P0 + i)), .int (nI (uL x / 2 ^ (8 * i) % 256))]) (n9 := 3) hC hw (c_D_put_new l D kc _ _ _ d mst ow ix bb cpy gb' hm9 ho9 hi9 hc9 tg' 0 nm mo om al (va_up bs k (putN (bs k) P0 (uL x) i)) hm (stOK_mem hs (putN_ok (hs5 k) (hs6 k) i (by omega)).1 (putN_ok (hs5 k) (hs6 k) i (by omega)).2) k hk (P0 + i) (by omega) (uL x / 2 ^ (8 * i) % 256) (by omega) hvp hall) k_co_D_put k_ml_D_85 k_im_D_put k_se_D_put k_in_D rfl rfl (by decide +kernel) rfl ⟨Nat.le_trans (Nat.le_of_ble_eq_true rfl) hRf, Nat.le_trans (Nat.le_of_ble_eq_true rfl) hRl⟩ hdL hfd rfl hl.1 rfl (Nat.le_of_ble_eq_true rfl) d_D_store_93 ⟨(by omega), (by omega)⟩ (fun u H locs hp hw => ?_)
          obtain ⟨tg2, gb2, hm2, hkp, hgn, he2⟩ := hp
          obtain ⟨L2, f2⟩ := u
          dsimp only at hw hm2 he2
          rw [upk] at hm2
          refine W.cs (cells' := c9 + 1) (slots' := 1024 * (c9 + 1)) rfl (by omega) ?_
          refine lv_iinc (v := nI (i + 1)) (lv' := [(10, .int (nI (i + 1))), (0, .ref d), (1, .int (nI k)), (9, .int (nI nb)), (7, .long (lN P0)), (5, .long x)]) hx hb d_D_store_96 hl (k := 0) rfl (nI_1 i) (by decide) rfl (fun ls hl => ?_)
          refine lv_goto (tgt := 58) hx hb d_D_store_99 (by decide) ?_
          refine ih (i + 1) (c9 + 1) L2 f2 tg2 gb2 _ _ _ (by omega) (by omega) ?_ hm2 (he.tr he2) hw (lv_sub hl [0, 1, 2, 3, 4, 5] rfl)
          by_cases e : (P0 + (i + 1)) / 1024 = (P0 + i) / 1024
          · right
            refine ⟨by omega, fun R h => ?_⟩
            rw [isRow_un h hR0 e]
            exact hgn R0 hR0
          · left; omega
      · have hc2 : c9 ≤ (P0 + i) / 1024 - P0 / 1024 + 1 := by
          rcases hcn with q | q
          · omega
          · exact q.1
        have hall : ∀ R, isRow om al k (P0 + i) R → gb' R ≠ none := fun R h => by rw [isRow_un h hR0 rfl]; exact hg9
        refine callVv (As := [.int (nI k), .long (lN (P0 + i)), .int (nI (uL x / 2 ^ (8 * i) % 256))]) (n9 := 3) hC hw (c_D_put_row l D kc _ _ _ d mst ow ix bb cpy gb' hm9 ho9 hi9 hc9 tg' 0 nm mo om al (va_up bs k (putN (bs k) P0 (uL x) i)) hm (stOK_mem hs (putN_ok (hs5 k) (hs6 k) i (by omega)).1 (putN_ok (hs5 k) (hs6 k) i (by omega)).2) k hk (P0 + i) (by omega) (uL x / 2 ^ (8 * i) % 256) (by omega) hall) k_co_D_put k_ml_D_85 k_im_D_put k_se_D_put k_in_D rfl rfl (by decide +kernel) rfl ⟨Nat.le_trans (Nat.le_of_ble_eq_true rfl) hRf, Nat.le_trans (Nat.le_of_ble_eq_true rfl) hRl⟩ hdL hfd rfl hl.1 rfl (Nat.le_of_ble_eq_true rfl) d_D_store_93 ⟨(by omega), (by omega)⟩ (fun u H locs hp hw => ?_)
        obtain ⟨tg2, gb2, hm2, hkp, hgn, he2⟩ := hp
        obtain ⟨L2, f2⟩ := u
        dsimp only at hw hm2 he2
        rw [upk] at hm2
        refine lv_iinc (v := nI (i + 1)) (lv' := [(10, .int (nI (i + 1))), (0, .ref d), (1, .int (nI k)), (9, .int (nI nb)), (7, .long (lN P0)), (5, .long x)]) hx hb d_D_store_96 hl (k := 0) rfl (nI_1 i) (by decide) rfl (fun ls hl => ?_)
        refine lv_goto (tgt := 58) hx hb d_D_store_99 (by decide) ?_
        refine ih (i + 1) c9 L2 f2 tg2 gb2 _ _ _ (by omega) (by omega) ?_ hm2 (he.tr he2) hw (lv_sub hl [0, 1, 2, 3, 4, 5] rfl)
        by_cases e : (P0 + (i + 1)) / 1024 = (P0 + i) / 1024
        · right
          refine ⟨by omega, fun R h => ?_⟩
          rw [isRow_un h hR0 e]
          exact hgn R0 hR0
        · left; omega
set_option maxHeartbeats 4000000 in
set_option maxRecDepth 100000 in
theorem c_D_store (l : Launch) (D : va_G) (kc : Nat → ClassId) (L : List Nat) (f : Nat → va_E) (sz : Nat) (d mst ow ix bb cpy : Nat) (gb : Nat → Option Nat) (hm9 ho9 hi9 hc9 : Nat → Int32) (tg : Nat → Nat × Nat) (th : Int32) (nm : Nat) (mo : Nat → Int32) (om : Nat → Nat) (al : Nat) (bs : Nat → Nat → Nat) (hg : modG kc L f tg d mst ow ix bb cpy gb hm9 ho9 hi9 hc9 th nm mo om al bs) (hs : stOK nm mo om al bs) (mm op ad of : Int32) (vl : Int64) : Met l y_D_store w_D_store ({ frames := 2, cells := 2, slots := 2048, locals := 51 }) (PP D kc L f sz [.ref d, .int mm, .int op, .int ad, .int of, .long vl]) (Qv D L f sz (fun u => ∃ t9 tg', Ext SD L f tg u tg' ∧ ((t9 = 1 ∧ ¬ ((∃ k, k < nm ∧ mm = nI k) ∧ ∃ kd, kd < 9 ∧ op = nI (54 + kd)) ∧ modP kc u.1 u.2 tg' d t9 nm mo om al bs) ∨ (t9 = 2 ∧ ∃ k, k < nm ∧ mm = nI k ∧ ∃ kd, kd < 9 ∧ op = nI (54 + kd) ∧ ¬ (uI ad + uI of + szS kd ≤ 65536 * cnt om al k) ∧ modP kc u.1 u.2 tg' d t9 nm mo om al bs) ∨ (t9 = 0 ∧ ∃ k, k < nm ∧ mm = nI k ∧ ∃ kd, kd < 9 ∧ op = nI (54 + kd) ∧ uI ad + uI of + szS kd ≤ 65536 * cnt om al k ∧ modP kc u.1 u.2 tg' d t9 nm mo om al (va_up bs k (putN (bs k) (uI ad + uI of) (uL vl) (szS kd))))))) 2 2048 (pA L f sz) := by
  refine kx_met (by decide) (Nat.le_of_ble_eq_true rfl) ?_
  intro p e s m below meth c hC hnm hw hsz ls hl
  subst hsz
  have hl : lv_has ls 11 [(0, .ref d), (1, .int mm), (2, .int op), (3, .int ad), (4, .int of), (5, .long vl)] := hl
  obtain ⟨⟨⟨hx, hb, hml, hown, hts⟩, hret9, hlocks⟩, hK, hE, hA⟩ := id hC
  obtain ⟨⟨hdL, htd, hfd⟩, ⟨hmL, htm, hfm⟩, ⟨hoL, hto, hfo⟩, ⟨hiL, hti, hfi⟩, ⟨hbL, htb, hfb⟩, ⟨hcL, htc, hfc⟩, hk1, hk2, hk3⟩ := id hg
  obtain ⟨hs1, hs2, hs3, hs4, hs5, hs6⟩ := id hs
  refine lv_iload_n hx hb d_D_store_0 rfl (lv_at hl 3 rfl) ?_
  refine lv_iload hx hb d_D_store_1 (lv_at hl 4 rfl) ?_
  refine callSl (As := [.int ad, .int of]) (n9 := 2) hC hw (c_D_place l D kc _ _ _ ad of) k_co_D_place k_ml_D_65 k_sm_D_place k_in_D rfl rfl (by decide +kernel) rfl ⟨Nat.le_of_ble_eq_true rfl, Nat.le_of_ble_eq_true rfl⟩ hl.1 rfl (Nat.le_of_ble_eq_true rfl) d_D_store_3 ⟨Nat.le_of_ble_eq_true rfl, Nat.le_of_ble_eq_true rfl⟩ (fun r9 u H locs hp hw => ?_)
  obtain ⟨rfl, rfl⟩ := hp
  have h33 : uI ad + uI of < 2 ^ 33 := by have := uI_lt ad; have := uI_lt of; omega
  refine lv_lstore (lv' := [(7, .long (lN (uI ad + uI of))), (0, .ref d), (1, .int mm), (2, .int op), (3, .int ad), (4, .int of), (5, .long vl)]) hx hb d_D_store_6 hl (by decide) rfl (fun ls hl => ?_)
  refine lv_iload_n hx hb d_D_store_8 rfl (lv_at hl 3 rfl) ?_
  refine callSi (As := [.int op]) (n9 := 1) hC hw (c_D_size l D kc _ _ _ op) k_co_D_size k_ml_D_69 k_sm_D_size k_in_D rfl rfl (by decide +kernel) rfl ⟨Nat.le_of_ble_eq_true rfl, Nat.le_of_ble_eq_true rfl⟩ hl.1 rfl (Nat.le_of_ble_eq_true rfl) d_D_store_9 ⟨Nat.le_of_ble_eq_true rfl, Nat.le_of_ble_eq_true rfl⟩ (fun r9 u H locs hp hw => ?_)
  obtain ⟨⟨z, rfl, hz1, hz2, hzL, hzS⟩, rfl⟩ := hp
  refine lv_istore (lv' := [(9, .int (nI z)), (7, .long (lN (uI ad + uI of))), (0, .ref d), (1, .int mm), (2, .int op), (3, .int ad), (4, .int of), (5, .long vl)]) hx hb d_D_store_12 hl (by decide) rfl (fun ls hl => ?_)
  refine lv_aload_n hx hb d_D_store_14 rfl (lv_at hl 2 rfl) ?_
  refine lv_aload_n hx hb d_D_store_15 rfl (lv_at hl 2 rfl) ?_
  refine lv_iload_n hx hb d_D_store_16 rfl (lv_at hl 3 rfl) ?_
  refine callVi (As := [.int mm]) (n9 := 1) hC hw (c_D_isMemory l D kc _ _ _ d mst ow ix bb cpy gb hm9 ho9 hi9 hc9 tg th nm mo om al bs hg hs mm) k_co_D_isMemory k_ml_D_51 k_im_D_isMemory k_se_D_isMemory k_in_D rfl rfl (by decide +kernel) rfl ⟨Nat.le_of_ble_eq_true rfl, Nat.le_of_ble_eq_true rfl⟩ hdL hfd rfl hl.1 rfl (Nat.le_of_ble_eq_true rfl) d_D_store_17 ⟨Nat.le_of_ble_eq_true rfl, Nat.le_of_ble_eq_true rfl⟩ (fun r9 u H locs hp hw => ?_)
  obtain ⟨hp, rfl⟩ := hp
  rcases hp with ⟨rfl, k, hkn, rfl⟩ | ⟨rfl, hno⟩
  · refine lv_if_eq (tgt := 31) hx hb d_D_store_20 (by decide) (fun c0 => ((by decide : ¬ (1 : Int32) = 0) c0).elim) (fun c0 => ?_)
    have hcl := cnt_le om k al
    refine lv_iload_n hx hb d_D_store_23 rfl (lv_at hl 4 rfl) ?_
    refine lv_iconst (v := 1) hx hb d_D_store_24 (by decide) ?_
    refine callSi (As := [.int op, .int 1]) (n9 := 2) hC hw (c_D_isWhole_st l D kc _ _ _ op) k_co_D_isWhole k_ml_D_72 k_sm_D_isWhole k_in_D rfl rfl (by decide +kernel) rfl ⟨Nat.le_of_ble_eq_true rfl, Nat.le_of_ble_eq_true rfl⟩ hl.1 rfl (Nat.le_of_ble_eq_true rfl) d_D_store_25 ⟨Nat.le_of_ble_eq_true rfl, Nat.le_of_ble_eq_true rfl⟩ (fun r9 u H locs hp hw => ?_)
    obtain ⟨hp, rfl⟩ := hp
    rcases hp with ⟨rfl, kd, hkd, rfl⟩ | ⟨rfl, hnk⟩
    · refine lv_if_ne (tgt := 35) hx hb d_D_store_28 (by decide) (fun c1 => ?_) (fun c1 => ((by decide : ¬ (1 : Int32) = 0) c1).elim)
      have hzz : z = szS kd := hzS kd hkd rfl
      subst hzz
      refine lv_aload_n hx hb d_D_store_35 rfl (lv_at hl 2 rfl) ?_
      refine lv_iload_n hx hb d_D_store_36 rfl (lv_at hl 3 rfl) ?_
      refine lv_lload hx hb d_D_store_37 (lv_at hl 1 rfl) ?_
      refine lv_iload hx hb d_D_store_39 (lv_at hl 0 rfl) ?_
      refine callVi (As := [.int (nI k), .long (lN (uI ad + uI of)), .int (nI (szS kd))]) (n9 := 3) hC hw (c_D_isThere l D kc _ _ _ d mst ow ix bb cpy gb hm9 ho9 hi9 hc9 tg th nm mo om al bs hg hs k hkn (lN (uI ad + uI of)) (szS kd) (by omega)) k_co_D_isThere k_ml_D_76 k_im_D_isThere k_se_D_isThere k_in_D rfl rfl (by decide +kernel) rfl ⟨Nat.le_of_ble_eq_true rfl, Nat.le_of_ble_eq_true rfl⟩ hdL hfd rfl hl.1 rfl (Nat.le_of_ble_eq_true rfl) d_D_store_41 ⟨Nat.le_of_ble_eq_true rfl, Nat.le_of_ble_eq_true rfl⟩ (fun r9 u H locs hp hw => ?_)
      obtain ⟨hp, rfl⟩ := hp
      rw [thereP_pl ⟨by omega, by omega⟩ (by omega) (by omega)] at hp
      rcases hp with ⟨rfl, hth⟩ | ⟨rfl, hth⟩
      · refine lv_if_ne (tgt := 51) hx hb d_D_store_44 (by decide) (fun c3 => ?_) (fun c3 => ((by decide : ¬ (1 : Int32) = 0) c3).elim)
        refine lv_iconst (v := 0) hx hb d_D_store_51 (by decide) ?_
        refine put_D hC hw hdL hfd 0 (by decide) k_fl_D_28 rfl rfl rfl (Nat.le_of_ble_eq_true rfl) d_D_store_52 (fun H locs hw => ?_)
        obtain ⟨f1, hf1⟩ : ∃ F, F = va_up f d (.inr (3, [.int 0, .int (nI nm), .ref mst, .int (nI al), .ref ow, .ref ix, .ref bb, .ref cpy])) := ⟨_, rfl⟩
        have hw := pw_as (f' := f1) hw rfl hf1.symm
        obtain ⟨hg1, he1⟩ := mod_th hg 0
        rw [← hf1] at hg1 he1
        obtain ⟨⟨hdL1, htd1, hfd1⟩, ⟨hmL1, htm1, hfm1⟩, ⟨hoL1, hto1, hfo1⟩, ⟨hiL1, hti1, hfi1⟩, ⟨hbL1, htb1, hfb1⟩, ⟨hcL1, htc1, hfc1⟩, hk11, hk21, hk31⟩ := id hg1
        refine lv_iconst (v := 0) hx hb d_D_store_55 (by decide) ?_
        refine lv_istore (lv' := [(10, .int 0), (9, .int (nI (szS kd))), (7, .long (lN (uI ad + uI of))), (0, .ref d), (1, .int (nI k)), (2, .int (nI (54 + kd))), (3, .int ad), (4, .int of), (5, .long vl)]) hx hb d_D_store_56 hl (by decide) rfl (fun ls hl => ?_)
        have hb0 : va_up bs k (putN (bs k) (uI ad + uI of) (uL vl) 0) = bs := by
          funext z
          by_cases q : z = k
          · rw [q, va_up_self]; rfl
          · rw [va_up_ne _ _ q]
        refine lp_dstore hs ⟨Nat.le_refl _, Nat.le_refl _⟩ k hkn (uI ad + uI of) (szS kd) vl hth hz2 hC (Nat.le_of_ble_eq_true rfl) (Nat.le_of_ble_eq_true rfl) (fun c9 L2 f2 tg2 gb2 H locs ls hcn hm2 he2 hw => ?_) (szS kd + 1) 0 0 L f1 tg gb _ _ _ (Nat.zero_le _) (by omega) (Or.inl (Nat.zero_le _)) (by rw [hb0]; exact hg1) Ext.rf hw (lv_sub hl [0, 3, 4, 1, 2, 8] rfl)
        refine W.widen (k := 2) (n := 2048) (by omega) (by omega) ?_
        exact pg_vret hC.1 hw (⟨0, tg2, he1.tr he2, Or.inr (Or.inr ⟨rfl, k, hkn, rfl, kd, hkd, rfl, hth, mst, ow, ix, bb, cpy, gb2, hm9, ho9, hi9, hc9, hm2⟩)⟩) d_D_store_102
      · refine lv_if_ne (tgt := 51) hx hb d_D_store_44 (by decide) (fun c3 => (c3 rfl).elim) (fun c3 => ?_)
        refine lv_iconst (v := 2) hx hb d_D_store_47 (by decide) ?_
        refine lv_goto (tgt := 52) hx hb d_D_store_48 (by decide) ?_
        refine put_D hC hw hdL hfd 0 (by decide) k_fl_D_28 rfl rfl rfl (Nat.le_of_ble_eq_true rfl) d_D_store_52 (fun H locs hw => ?_)
        obtain ⟨f1, hf1⟩ : ∃ F, F = va_up f d (.inr (3, [.int 2, .int (nI nm), .ref mst, .int (nI al), .ref ow, .ref ix, .ref bb, .ref cpy])) := ⟨_, rfl⟩
        have hw := pw_as (f' := f1) hw rfl hf1.symm
        obtain ⟨hg1, he1⟩ := mod_th hg 2
        rw [← hf1] at hg1 he1
        obtain ⟨⟨hdL1, htd1, hfd1⟩, ⟨hmL1, htm1, hfm1⟩, ⟨hoL1, hto1, hfo1⟩, ⟨hiL1, hti1, hfi1⟩, ⟨hbL1, htb1, hfb1⟩, ⟨hcL1, htc1, hfc1⟩, hk11, hk21, hk31⟩ := id hg1
        refine lv_iconst (v := 0) hx hb d_D_store_55 (by decide) ?_
        refine lv_istore (lv' := [(10, .int 0), (9, .int (nI (szS kd))), (7, .long (lN (uI ad + uI of))), (0, .ref d), (1, .int (nI k)), (2, .int (nI (54 + kd))), (3, .int ad), (4, .int of), (5, .long vl)]) hx hb d_D_store_56 hl (by decide) rfl (fun ls hl => ?_)
        refine lv_iload hx hb d_D_store_58 (lv_at hl 0 rfl) ?_
        refine lv_iload hx hb d_D_store_60 (lv_at hl 1 rfl) ?_
        refine lv_icmp_ge (tgt := 102) hx hb d_D_store_62 (by decide) (fun cz => (nI_nle (by omega) (by omega) cz).elim) (fun cz => ?_)
        refine lv_aload_n hx hb d_D_store_65 rfl (lv_at hl 3 rfl) ?_
        refine get_D hC hw hdL1 hfd1 0 (by decide) k_fl_D_28 rfl d_D_store_66 ?_
        refine lv_if_ne (tgt := 102) hx hb d_D_store_69 (by decide) (fun cy => ?_) (fun cy => ((by decide : ¬ (2 : Int32) = 0) cy).elim)
        refine W.widen (k := 2) (n := 2048) (by omega) (by omega) ?_
        exact pg_vret hC.1 hw (⟨2, tg, he1, Or.inr (Or.inl ⟨rfl, k, hkn, rfl, kd, hkd, rfl, hth, ⟨mst, ow, ix, bb, cpy, gb, hm9, ho9, hi9, hc9, hg1⟩⟩)⟩) d_D_store_102
    · refine lv_if_ne (tgt := 35) hx hb d_D_store_28 (by decide) (fun c1 => (c1 rfl).elim) (fun c1 => ?_)
      refine lv_iconst (v := 1) hx hb d_D_store_31 (by decide) ?_
      refine lv_goto (tgt := 52) hx hb d_D_store_32 (by decide) ?_
      refine put_D hC hw hdL hfd 0 (by decide) k_fl_D_28 rfl rfl rfl (Nat.le_of_ble_eq_true rfl) d_D_store_52 (fun H locs hw => ?_)
      obtain ⟨f1, hf1⟩ : ∃ F, F = va_up f d (.inr (3, [.int 1, .int (nI nm), .ref mst, .int (nI al), .ref ow, .ref ix, .ref bb, .ref cpy])) := ⟨_, rfl⟩
      have hw := pw_as (f' := f1) hw rfl hf1.symm
      obtain ⟨hg1, he1⟩ := mod_th hg 1
      rw [← hf1] at hg1 he1
      obtain ⟨⟨hdL1, htd1, hfd1⟩, ⟨hmL1, htm1, hfm1⟩, ⟨hoL1, hto1, hfo1⟩, ⟨hiL1, hti1, hfi1⟩, ⟨hbL1, htb1, hfb1⟩, ⟨hcL1, htc1, hfc1⟩, hk11, hk21, hk31⟩ := id hg1
      refine lv_iconst (v := 0) hx hb d_D_store_55 (by decide) ?_
      refine lv_istore (lv' := [(10, .int 0), (9, .int (nI z)), (7, .long (lN (uI ad + uI of))), (0, .ref d), (1, .int (nI k)), (2, .int op), (3, .int ad), (4, .int of), (5, .long vl)]) hx hb d_D_store_56 hl (by decide) rfl (fun ls hl => ?_)
      refine lv_iload hx hb d_D_store_58 (lv_at hl 0 rfl) ?_
      refine lv_iload hx hb d_D_store_60 (lv_at hl 1 rfl) ?_
      refine lv_icmp_ge (tgt := 102) hx hb d_D_store_62 (by decide) (fun cz => (nI_nle (by omega) (by omega) cz).elim) (fun cz => ?_)
      refine lv_aload_n hx hb d_D_store_65 rfl (lv_at hl 3 rfl) ?_
      refine get_D hC hw hdL1 hfd1 0 (by decide) k_fl_D_28 rfl d_D_store_66 ?_
      refine lv_if_ne (tgt := 102) hx hb d_D_store_69 (by decide) (fun cy => ?_) (fun cy => ((by decide : ¬ (1 : Int32) = 0) cy).elim)
      refine W.widen (k := 2) (n := 2048) (by omega) (by omega) ?_
      exact pg_vret hC.1 hw (⟨1, tg, he1, Or.inl ⟨rfl, fun h => hnk h.2, ⟨mst, ow, ix, bb, cpy, gb, hm9, ho9, hi9, hc9, hg1⟩⟩⟩) d_D_store_102
  · refine lv_if_eq (tgt := 31) hx hb d_D_store_20 (by decide) (fun c0 => ?_) (fun c0 => (c0 rfl).elim)
    refine lv_iconst (v := 1) hx hb d_D_store_31 (by decide) ?_
    refine lv_goto (tgt := 52) hx hb d_D_store_32 (by decide) ?_
    refine put_D hC hw hdL hfd 0 (by decide) k_fl_D_28 rfl rfl rfl (Nat.le_of_ble_eq_true rfl) d_D_store_52 (fun H locs hw => ?_)
    obtain ⟨f1, hf1⟩ : ∃ F, F = va_up f d (.inr (3, [.int 1, .int (nI nm), .ref mst, .int (nI al), .ref ow, .ref ix, .ref bb, .ref cpy])) := ⟨_, rfl⟩
    have hw := pw_as (f' := f1) hw rfl hf1.symm
    obtain ⟨hg1, he1⟩ := mod_th hg 1
    rw [← hf1] at hg1 he1
    obtain ⟨⟨hdL1, htd1, hfd1⟩, ⟨hmL1, htm1, hfm1⟩, ⟨hoL1, hto1, hfo1⟩, ⟨hiL1, hti1, hfi1⟩, ⟨hbL1, htb1, hfb1⟩, ⟨hcL1, htc1, hfc1⟩, hk11, hk21, hk31⟩ := id hg1
    refine lv_iconst (v := 0) hx hb d_D_store_55 (by decide) ?_
    refine lv_istore (lv' := [(10, .int 0), (9, .int (nI z)), (7, .long (lN (uI ad + uI of))), (0, .ref d), (1, .int mm), (2, .int op), (3, .int ad), (4, .int of), (5, .long vl)]) hx hb d_D_store_56 hl (by decide) rfl (fun ls hl => ?_)
    refine lv_iload hx hb d_D_store_58 (lv_at hl 0 rfl) ?_
    refine lv_iload hx hb d_D_store_60 (lv_at hl 1 rfl) ?_
    refine lv_icmp_ge (tgt := 102) hx hb d_D_store_62 (by decide) (fun cz => (nI_nle (by omega) (by omega) cz).elim) (fun cz => ?_)
    refine lv_aload_n hx hb d_D_store_65 rfl (lv_at hl 3 rfl) ?_
    refine get_D hC hw hdL1 hfd1 0 (by decide) k_fl_D_28 rfl d_D_store_66 ?_
    refine lv_if_ne (tgt := 102) hx hb d_D_store_69 (by decide) (fun cy => ?_) (fun cy => ((by decide : ¬ (1 : Int32) = 0) cy).elim)
    refine W.widen (k := 2) (n := 2048) (by omega) (by omega) ?_
    exact pg_vret hC.1 hw (⟨1, tg, he1, Or.inl ⟨rfl, fun h => hno h.1, ⟨mst, ow, ix, bb, cpy, gb, hm9, ho9, hi9, hc9, hg1⟩⟩⟩) d_D_store_102
