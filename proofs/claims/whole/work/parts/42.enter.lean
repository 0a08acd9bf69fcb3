/-! THE LAW'S ENTRY: the two objects and the array are made -/
theorem pw_nil {D : va_G} {A : Nat → Prop} {H : Heap} {f : Nat → va_E} : pw D Cls A H H [] [] f :=
  ⟨fun k q h => by simp [va_pl] at h, ⟨fun i j p q h => by simp [va_pl] at h, fun k q h => by simp [va_pl] at h⟩, va_S.rf⟩
theorem ok0 : okS (0, fun _ => 0, fun _ => 0, 0, fun _ _ => 0) := ⟨Nat.zero_le _, Nat.zero_le _, fun k h => absurd h (Nat.not_lt_zero _), fun k h => absurd h (Nat.not_lt_zero _), fun _ _ _ => rfl, fun _ _ => by show (0 : Nat) < 256; decide⟩
set_option maxHeartbeats 4000000 in
set_option maxRecDepth 100000 in
theorem law_enter {p : Program} {l : Launch} {e : Env} {R : Room} {s : State} {m : MethodId} {args : Array Value} {below : List Frame} {meth : Method} {c : Code} {Q : State → Prop} {A : Nat → Prop} {D : va_G} {kc : Nat → ClassId} {c0 : Cond} {ret : Option FieldType} {b N : Nat} {xs : Nat → Int32} (hst : l.stackTraces = false) (hC : Kx p m c code 8 s args c0 R_L meth ret D kc A) (hRf : 12 ≤ R.frames) (hRl : 464 ≤ R.locals) (hRc : 601024 ≤ R.cells) (hRs : 7293034 ≤ R.slots) (hX : va_X b N xs s s.heap) (hbl : b < s.heap.size) (hbA : ¬ A b) (hN : N ≤ 3584)
    (kont : ∀ (H : Heap) (locs : List Loc) (cells slots : Nat) (ls : Array Slot), (∀ q ∈ locs, A q.base) → cells ≤ 601024 → slots ≤ 7293034 → W p l e R s m args below meth c H locs cells slots Q (F0 m 746 ls []))
    {ls : Array Slot} (hl : lv_has ls 8 [(0, .ref b)]) : W p l e R s m args below meth c s.heap [] 0 0 Q (F0 m 0 ls []) := by
  obtain ⟨⟨⟨hx, hb, hml, hown, hts⟩, hret9, hlocks⟩, hK, hE, hA⟩ := id hC
  have hw : pw D Cls A s.heap s.heap [] [] (fun _ => .inr (0, [])) := pw_nil
  refine new_P hC hw k_cl_L_8 k_it_P k_in_P (fs := [.null, .null, .int 0, .int 0]) (fun j hj => by rcases (show j = 0 ∨ j = 1 ∨ j = 2 ∨ j = 3 by omega) with rfl | rfl | rfl | rfl <;> rfl) (by omega) (by omega) d_L_law_0 (fun x H hxn hw => ?_)
  refine lv_dup hx hb d_L_law_3 rfl ?_
  refine callCtor (b := x) (As := []) (n9 := 0) hC hw (c_P_init l D kc _ _ _ x (fun _ => (0, 0)) (fun _ => 0) (fun _ => 0) (fun _ _ => 0) mem_r (va_up_self _ _ _)) k_co_P_init k_ml_L_48 k_im_P_init k_in_P rfl rfl rfl (by decide +kernel) rfl ⟨Nat.le_trans (Nat.le_of_ble_eq_true rfl) hRf, Nat.le_trans (Nat.le_of_ble_eq_true rfl) hRl⟩ hl.1 rfl (Nat.le_of_ble_eq_true rfl) d_L_law_4 ⟨by omega, by omega⟩ (fun u H locs hp hw => ?_)
  obtain ⟨tg1, ⟨ms, cp, gm, hc, hg1⟩, -, -, -⟩ := hp
  obtain ⟨L1, f1⟩ := u
  refine lv_astore_n (lv' := [(1, .ref x), (0, .ref b)]) hx hb d_L_law_7 rfl hl (by decide) rfl (fun ls hl => ?_)
  refine new_D hC hw k_cl_L_49 k_it_D k_in_D (fs := [.int 0, .int 0, .null, .int 0, .null, .null, .null, .null]) (fun j hj => by rcases (show j = 0 ∨ j = 1 ∨ j = 2 ∨ j = 3 ∨ j = 4 ∨ j = 5 ∨ j = 6 ∨ j = 7 by omega) with rfl | rfl | rfl | rfl | rfl | rfl | rfl | rfl <;> rfl) (by omega) (by omega) d_L_law_8 (fun d H hdn hw => ?_)
  refine lv_dup hx hb d_L_law_11 rfl ?_
  refine callCtor (b := d) (As := []) (n9 := 0) hC hw (c_D_init l D kc _ _ _ d tg1 (fun _ => 0) (fun _ => 0) (fun _ _ => 0) mem_r (va_up_self _ _ _)) k_co_D_init k_ml_L_51 k_im_D_init k_in_D rfl rfl rfl (by decide +kernel) rfl ⟨Nat.le_trans (Nat.le_of_ble_eq_true rfl) hRf, Nat.le_trans (Nat.le_of_ble_eq_true rfl) hRl⟩ hl.1 rfl (Nat.le_of_ble_eq_true rfl) d_L_law_12 ⟨by omega, by omega⟩ (fun u H locs hp hw => ?_)
  obtain ⟨tg2, ⟨mst, ow, ix, bb, cpy, gb, hm9, ho9, hi9, hc9, hmg2⟩, hkL, hkf, hnw⟩ := hp
  obtain ⟨L2, f2⟩ := u
  have he2 : Ext (fun i => i = 200) L1 f1 tg1 (L2, f2) tg2 := by
    refine ⟨fun a ha => hkL a (mem_l ha), fun a ha => (hkf a (mem_l ha) (ne_in ha hdn)).2, fun a ha _ => ?_, fun a ha hn => ?_⟩
    · rw [(hkf a (mem_l ha) (ne_in ha hdn)).1]
      exact va_up_ne _ _ (ne_in ha hdn)
    · by_cases q : a = d
      · rw [q, hmg2.1.2.1]
      · exact hnw a ha (fun z => (List.mem_append.mp z).elim hn (fun y => q (List.mem_singleton.mp y)))
  have hg2 : rootG kc L2 f2 tg2 x ms cp gm hc 0 (fun _ => 0) (fun _ => 0) 0 (fun _ _ => 0) := root_ext (u := (L2, f2)) hg1 (Nat.zero_le _) he2 (fun i hi => by omega)
  refine lv_astore_n (lv' := [(2, .ref d), (1, .ref x), (0, .ref b)]) hx hb d_L_law_15 rfl hl (by decide) rfl (fun ls hl => ?_)
  refine lv_iconst (v := 1) hx hb d_L_law_16 (by decide) ?_
  refine tp_i (v := nI 1) rfl ?_
  refine newJ hC hw (gg_of (by decide +kernel) (by decide +kernel)) (by decide) (by omega) (by omega) d_L_law_17 (fun o H hon hw => ?_)
  refine lv_astore_n (lv' := [(3, .ref o), (2, .ref d), (1, .ref x), (0, .ref b)]) hx hb d_L_law_19 rfl hl (by decide) rfl (fun ls hl => ?_)
  refine lv_iconst (v := 0) hx hb d_L_law_20 (by decide) ?_
  refine tp_i (v := nI 0) rfl ?_
  refine lv_istore (lv' := [(4, .int (nI 0)), (3, .ref o), (2, .ref d), (1, .ref x), (0, .ref b)]) hx hb d_L_law_21 hl (by decide) rfl (fun ls hl => ?_)
  have he3 : Ext (fun i => i = 300) L2 f2 tg2 (L2 ++ [o], va_up f2 o (.inl (kc 5, 1, .inr (.inl (fun _ => 0))))) (va_up tg2 o (300, 0)) := by
    refine ⟨fun a ha => mem_l ha, fun a ha => va_up_ne _ _ (ne_in ha hon), fun a ha _ => va_up_ne _ _ (ne_in ha hon), fun a ha hn => ?_⟩
    rcases List.mem_append.mp ha with h | h
    · exact absurd h hn
    · rw [List.mem_singleton.mp h, va_up_self]
  exact law_loop hst hC hRf hRl hRc hRs hX hbl hbA hN kont (N + 1) 0 0 (L2 ++ [o]) (va_up f2 o (.inl (kc 5, 1, .inr (.inl (fun _ => 0))))) (va_up tg2 o (300, 0)) (0, fun _ => 0, fun _ => 0, 0, fun _ _ => 0) 0 0 H locs _ _ ls rfl (Nat.zero_le _) (by omega) (by omega) (by omega) ⟨ms, cp, gm, hc, root_ext hg2 (Nat.zero_le _) he3 (fun i hi => by omega)⟩ ⟨mst, ow, ix, bb, cpy, gb, hm9, ho9, hi9, hc9, mod_ext hmg2 he3 (by decide)⟩ ⟨mem_r, va_up_self _ _ _, fun _ => 0, va_up_self _ _ _, rfl⟩ ok0 hw (lv_sub hl [4, 3, 2, 1, 0] rfl)
