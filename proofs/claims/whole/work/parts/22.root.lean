/-! THE STATE: n memories, mo k the most of each, om: whose the pages are, in the order in which they came (al of them), bs k: its bytes -/
def cnt (om : Nat → Nat) : Nat → Nat → Nat
  | 0, _ => 0
  | k + 1, m => cnt om k m + (if om k = m then 1 else 0)
def appN (om : Nat → Nat) (al m : Nat) : Nat → Nat := fun k => if k < al then om k else m
theorem cnt_congr {om om' : Nat → Nat} (m : Nat) : ∀ al, (∀ k, k < al → om k = om' k) → cnt om al m = cnt om' al m
  | 0, _ => rfl
  | al + 1, h => by
    show cnt om al m + _ = cnt om' al m + _
    rw [cnt_congr m al (fun k hk => h k (by omega)), h al (by omega)]
theorem cnt_le (om : Nat → Nat) (m : Nat) : ∀ al, cnt om al m ≤ al
  | 0 => Nat.le_refl _
  | al + 1 => by
    have := cnt_le om m al
    show cnt om al m + (if om al = m then 1 else 0) ≤ al + 1
    by_cases h : om al = m
    · rw [if_pos h]; omega
    · rw [if_neg h]; omega
theorem cnt_zero {om : Nat → Nat} {m : Nat} : ∀ al, (∀ k, k < al → om k ≠ m) → cnt om al m = 0
  | 0, _ => rfl
  | al + 1, h => by
    show cnt om al m + (if om al = m then 1 else 0) = 0
    rw [cnt_zero al (fun k hk => h k (by omega)), if_neg (h al (by omega))]
theorem cnt_app (om : Nat → Nat) (al m k : Nat) : ∀ d, cnt (appN om al m) (al + d) k = cnt om al k + (if k = m then d else 0)
  | 0 => by
    rw [Nat.add_zero, cnt_congr (om' := om) k al (fun j hj => by unfold appN; rw [if_pos hj])]
    by_cases h : k = m
    · rw [if_pos h]; rfl
    · rw [if_neg h]; rfl
  | d + 1 => by
    show cnt (appN om al m) (al + d) k + (if appN om al m (al + d) = k then 1 else 0) = _
    rw [cnt_app om al m k d, show appN om al m (al + d) = m from by unfold appN; rw [if_neg (by omega)]]
    by_cases h : k = m
    · rw [if_pos h, if_pos h, if_pos h.symm]; omega
    · rw [if_neg h, if_neg h, if_neg (Ne.symm h)]
def stOK (n : Nat) (mo : Nat → Int32) (om : Nat → Nat) (al : Nat) (bs : Nat → Nat → Nat) : Prop :=
  n ≤ 24 ∧ al ≤ 16 ∧ (∀ k, k < al → om k < n) ∧ (∀ k, k < n → mo k = -1 ∨ ∃ q, q ≤ 65536 ∧ mo k = nI q ∧ cnt om al k ≤ q) ∧ (∀ k j, 65536 * cnt om al k ≤ j → bs k j = 0) ∧ ∀ k j, bs k j < 256
def Nof (mo : Int32) (N : Nat) : Prop := (mo = -1 ∧ N = 1024) ∨ ∃ q, q ≤ 65536 ∧ mo = nI q ∧ N = min q 16 * 64
theorem nI_nm1 {q : Nat} (h : q ≤ 65536) : nI q ≠ -1 := fun e => nI_pos (n := q) (by omega) (by rw [e]; decide)
theorem nI_inj {a b : Nat} (ha : a ≤ 65536) (hb : b ≤ 65536) (h : nI a = nI b) : a = b := (nI_eq (by omega) (by omega)).mp h
theorem Nof_le {n : Nat} {mo : Nat → Int32} {om : Nat → Nat} {al : Nat} {bs : Nat → Nat → Nat} (hs : stOK n mo om al bs) {k N : Nat} (hk : k < n) (hN : Nof (mo k) N) : 64 * cnt om al k ≤ N ∧ cnt om al k ≤ 16 := by
  obtain ⟨-, h2, -, h4, -⟩ := hs
  have := cnt_le om k al
  rcases hN with ⟨-, h⟩ | ⟨q, hq, e, h⟩
  · omega
  · rcases h4 k hk with e2 | ⟨q2, hq2, e2, h5⟩
    · exact absurd (e.symm.trans e2) (nI_nm1 hq)
    · have := nI_inj hq hq2 (e.symm.trans e2)
      omega
def rootG (kc : Nat → ClassId) (L : List Nat) (f : Nat → va_E) (tg : Nat → Nat × Nat) (x ms cp : Nat) (gm : Nat → Option Nat) (hc : Nat → Int32) (n : Nat) (mo : Nat → Int32) (om : Nat → Nat) (al : Nat) (bs : Nat → Nat → Nat) : Prop :=
  ((x ∈ L ∧ tg x = (100, 0) ∧ f x = .inr (2, [.ref ms, .ref cp, .int (nI n), .int (nI al)])) ∧ (ms ∈ L ∧ tg ms = (100, 1) ∧ f ms = .inl (kc 1, 24, .inr (.inr (.inr (.inr gm))))) ∧ (cp ∈ L ∧ tg cp = (100, 2) ∧ f cp = .inl (kc 0, 4096, .inl hc))) ∧ (∀ k, n ≤ k → k < 24 → gm k = none) ∧
  ∀ k, k < n → ∃ (am ra N : Nat) (g : Nat → Option Nat), gm k = some am ∧ memG kc L f tg k am ra (mo k) (cnt om al k) N g (bs k) ∧ Nof (mo k) N
def rootP (kc : Nat → ClassId) (L : List Nat) (f : Nat → va_E) (tg : Nat → Nat × Nat) (x : Nat) (n : Nat) (mo : Nat → Int32) (om : Nat → Nat) (al : Nat) (bs : Nat → Nat → Nat) : Prop := ∃ (ms cp : Nat) (gm : Nat → Option Nat) (hc : Nat → Int32), rootG kc L f tg x ms cp gm hc n mo om al bs
def SC : Nat → Prop := fun i => i < 24 ∨ i = 100
section RT
variable {kc : Nat → ClassId} {L : List Nat} {f : Nat → va_E} {tg : Nat → Nat × Nat} {x ms cp : Nat} {gm : Nat → Option Nat} {hc : Nat → Int32} {n : Nat} {mo : Nat → Int32} {om : Nat → Nat} {al : Nat} {bs : Nat → Nat → Nat}
/-- another's region has changed -/
theorem root_ext {S : Nat → Prop} {u : pU} {tg' : Nat → Nat × Nat} (h : rootG kc L f tg x ms cp gm hc n mo om al bs) (hn : n ≤ 24) (he : Ext S L f tg u tg') (hS : ∀ i, S i → ¬ (i < 24 ∨ i = 100)) : rootG kc u.1 u.2 tg' x ms cp gm hc n mo om al bs := by
  obtain ⟨⟨⟨a1, a2, a3⟩, ⟨b1, b2, b3⟩, ⟨c1, c2, c3⟩⟩, d, e⟩ := h
  have n100 : ¬ S 100 := fun q => hS _ q (Or.inr rfl)
  refine ⟨⟨⟨he.1 _ a1, by rw [he.2.1 _ a1]; exact a2, by rw [he.2.2.1 _ a1 (by rw [a2]; exact n100)]; exact a3⟩, ⟨he.1 _ b1, by rw [he.2.1 _ b1]; exact b2, by rw [he.2.2.1 _ b1 (by rw [b2]; exact n100)]; exact b3⟩, ⟨he.1 _ c1, by rw [he.2.1 _ c1]; exact c2, by rw [he.2.2.1 _ c1 (by rw [c2]; exact n100)]; exact c3⟩⟩, d, fun k hk => ?_⟩
  obtain ⟨am, ra, N, g, e1, e2, e3⟩ := e k hk
  exact ⟨am, ra, N, g, e1, memG_ext e2 he (fun q => hS _ q (Or.inl (by omega))), e3⟩
/-- the bytes of one memory have changed -/
theorem root_mem {u : pU} {tg' : Nat → Nat × Nat} {k am ra N : Nat} {g' : Nat → Option Nat} {b' : Nat → Nat} (h : rootG kc L f tg x ms cp gm hc n mo om al bs) (hn : n ≤ 24) (hk : k < n) (hg : gm k = some am) (hN : Nof (mo k) N) (he : Ext (fun i => i = k) L f tg u tg') (hm : memG kc u.1 u.2 tg' k am ra (mo k) (cnt om al k) N g' b') : rootG kc u.1 u.2 tg' x ms cp gm hc n mo om al (va_up bs k b') := by
  obtain ⟨⟨⟨a1, a2, a3⟩, ⟨b1, b2, b3⟩, ⟨c1, c2, c3⟩⟩, d, e⟩ := h
  have n100 : ¬ (100 = k) := by omega
  refine ⟨⟨⟨he.1 _ a1, by rw [he.2.1 _ a1]; exact a2, by rw [he.2.2.1 _ a1 (by rw [a2]; exact n100)]; exact a3⟩, ⟨he.1 _ b1, by rw [he.2.1 _ b1]; exact b2, by rw [he.2.2.1 _ b1 (by rw [b2]; exact n100)]; exact b3⟩, ⟨he.1 _ c1, by rw [he.2.1 _ c1]; exact c2, by rw [he.2.2.1 _ c1 (by rw [c2]; exact n100)]; exact c3⟩⟩, d, fun k2 hk2 => ?_⟩
  by_cases q : k2 = k
  · subst q
    exact ⟨am, ra, N, g', hg, by rw [va_up_self]; exact hm, hN⟩
  · obtain ⟨am2, ra2, N2, g2, e1, e2, e3⟩ := e k2 hk2
    exact ⟨am2, ra2, N2, g2, e1, by rw [va_up_ne _ _ q]; exact memG_ext e2 he q, e3⟩
/-- the row that copies go through has changed -/
theorem root_cp {h' : Nat → Int32} (h : rootG kc L f tg x ms cp gm hc n mo om al bs) (hn : n ≤ 24) : rootG kc L (va_up f cp (.inl (kc 0, 4096, .inl h'))) tg x ms cp gm h' n mo om al bs := by
  obtain ⟨⟨⟨a1, a2, a3⟩, ⟨b1, b2, b3⟩, ⟨c1, c2, c3⟩⟩, d, e⟩ := h
  have ne : ∀ a, tg a ≠ (100, 2) → va_up f cp (.inl (kc 0, 4096, .inl h')) a = f a := fun a ha => va_up_ne _ _ (fun q => ha (by rw [q]; exact c2))
  refine ⟨⟨⟨a1, a2, by rw [ne _ (by rw [a2]; simp)]; exact a3⟩, ⟨b1, b2, by rw [ne _ (by rw [b2]; simp)]; exact b3⟩, ⟨c1, c2, va_up_self _ _ _⟩⟩, d, fun k hk => ?_⟩
  obtain ⟨am, ra, N, g, e1, e2, e3⟩ := e k hk
  exact ⟨am, ra, N, g, e1, memG_ext e2 (u := (L, va_up f cp (.inl (kc 0, 4096, .inl h')))) (S := fun i => i = 100) (Ext_up (by rw [c2])) (by omega), e3⟩
/-- a memory has got d pages more -/
theorem root_grow {k am ra N d : Nat} {g : Nat → Option Nat} {f' : Nat → va_E} (h : rootG kc L f tg x ms cp gm hc n mo om al bs) (hn : n ≤ 24) (hk : k < n) (hg : gm k = some am) (hm : memG kc L f tg k am ra (mo k) (cnt om al k) N g (bs k)) (hN : Nof (mo k) N) (h1 : f' am = .inr (0, [.int (mo k), .int (nI (cnt om al k + d)), .ref ra])) (h2 : f' x = .inr (2, [.ref ms, .ref cp, .int (nI n), .int (nI (al + d))])) (h3 : ∀ a, a ≠ am → a ≠ x → f' a = f a) : rootG kc L f' tg x ms cp gm hc n mo (appN om al k) (al + d) bs ∧ Ext SC L f tg (L, f') tg := by
  obtain ⟨⟨⟨a1, a2, a3⟩, ⟨b1, b2, b3⟩, ⟨c1, c2, c3⟩⟩, d9, e⟩ := h
  obtain ⟨⟨m1, m2, m3⟩, ⟨r1, r2, r3⟩, m4, m5, m6⟩ := id hm
  have ne : ∀ a, tg a ≠ (k, 0) → tg a ≠ (100, 0) → f' a = f a := fun a ha hb => h3 a (fun q => ha (by rw [q]; exact m2)) (fun q => hb (by rw [q]; exact a2))
  have k100 : k ≠ 100 := by omega
  refine ⟨⟨⟨⟨a1, a2, h2⟩, ⟨b1, b2, by rw [ne _ (by rw [b2]; simp) (by rw [b2]; simp)]; exact b3⟩, ⟨c1, c2, by rw [ne _ (by rw [c2]; simp) (by rw [c2]; simp)]; exact c3⟩⟩, d9, fun k2 hk2 => ?_⟩, fun _ h => h, fun _ _ => rfl, fun a _ hs => ne a (fun q => hs (by rw [q]; exact Or.inl (by show k < 24; omega))) (fun q => hs (by rw [q]; exact Or.inr rfl)), fun _ h h2 => absurd h h2⟩
  rw [cnt_app]
  by_cases q : k2 = k
  · subst q
    rw [if_pos rfl]
    refine ⟨am, ra, N, g, hg, ⟨⟨m1, m2, h1⟩, ⟨r1, r2, by rw [ne _ (by rw [r2]; simp) (by rw [r2]; simp)]; exact r3⟩, m4, m5, fun r hr => rowAt_keep (m6 r hr) (fun _ h => h) (fun _ _ => rfl) (fun a _ ht => ne a ?_ ?_) (fun _ _ => rfl)⟩, hN⟩
    · rcases ht with z | z <;> rw [z] <;> simp only [ne_eq, Prod.mk.injEq, not_and] <;> omega
    · rcases ht with z | z <;> rw [z] <;> simp only [ne_eq, Prod.mk.injEq, not_and] <;> omega
  · rw [if_neg q]
    obtain ⟨am2, ra2, N2, g2, e1, e2, e3⟩ := e k2 hk2
    refine ⟨am2, ra2, N2, g2, e1, ?_, e3⟩
    have he : Ext (fun i => i = k ∨ i = 100) L f tg (L, f') tg := ⟨fun _ h => h, fun _ _ => rfl, fun a _ hs => ne a (fun z => hs (by rw [z]; exact Or.inl rfl)) (fun z => hs (by rw [z]; exact Or.inr rfl)), fun _ h h2 => absurd h h2⟩
    exact memG_ext e2 he (fun z => z.elim q (fun z => by omega))
/-- a memory has come -/
theorem root_make {ma ra ls9 N : Nat} {mv : Int32} {f' : Nat → va_E} (h : rootG kc L f tg x ms cp gm hc n mo om al bs) (hn : n < 24) (hz : cnt om al n = 0) (hbz : ∀ j, bs n j = 0) (hN : Nof mv N) (hma : ma ∉ L) (hra : ra ∉ L) (hmr : ma ≠ ra) (h1 : f' ma = .inr (0, [.int mv, .int (nI ls9), .ref ra])) (h2 : f' ra = .inl (kc 2, N, .inr (.inr (.inr (.inr (fun _ => none)))))) (h3 : f' ms = .inl (kc 1, 24, .inr (.inr (.inr (.inr (va_up gm n (some ma))))))) (h4 : f' x = .inr (2, [.ref ms, .ref cp, .int (nI (n + 1)), .int (nI (al + ls9))])) (h5 : ∀ a, a ∈ L → a ≠ ms → a ≠ x → f' a = f a) :
    ∃ tg', rootG kc ((L ++ [ma]) ++ [ra]) f' tg' x ms cp (va_up gm n (some ma)) hc (n + 1) (va_up mo n mv) (appN om al n) (al + ls9) bs ∧ Ext SC L f tg ((L ++ [ma]) ++ [ra], f') tg' := by
  obtain ⟨⟨⟨a1, a2, a3⟩, ⟨b1, b2, b3⟩, ⟨c1, c2, c3⟩⟩, d9, e⟩ := h
  refine ⟨va_up (va_up tg ma (n, 0)) ra (n, 1), ?_⟩
  have kt : ∀ a, a ∈ L → va_up (va_up tg ma (n, 0)) ra (n, 1) a = tg a := fun a ha => by
    have e1 : a ≠ ra := ne_in ha hra
    have e2 : a ≠ ma := ne_in ha hma
    rw [va_up_ne _ _ e1, va_up_ne _ _ e2]
  have tm : va_up (va_up tg ma (n, 0)) ra (n, 1) ma = (n, 0) := by rw [va_up_ne _ _ hmr, va_up_self]
  have tr : va_up (va_up tg ma (n, 0)) ra (n, 1) ra = (n, 1) := va_up_self _ _ _
  have kL : ∀ a, a ∈ L → a ∈ (L ++ [ma]) ++ [ra] := fun a ha => mem_l (mem_l ha)
  have ne : ∀ a, a ∈ L → tg a ≠ (100, 0) → tg a ≠ (100, 1) → f' a = f a := fun a ha hb hb2 => h5 a ha (fun q => hb2 (by rw [q]; exact b2)) (fun q => hb (by rw [q]; exact a2))
  have hNle : N ≤ 1024 := by rcases hN with ⟨-, z⟩ | ⟨q, -, -, z⟩ <;> omega
  have he : Ext (fun i => i = n ∨ i = 100) L f tg ((L ++ [ma]) ++ [ra], f') (va_up (va_up tg ma (n, 0)) ra (n, 1)) := by
    refine ⟨kL, kt, fun a ha hs => ne a ha (fun q => hs (by rw [q]; exact Or.inr rfl)) (fun q => hs (by rw [q]; exact Or.inr rfl)), fun a ha hn2 => ?_⟩
    rcases List.mem_append.mp ha with h | h
    · rcases List.mem_append.mp h with h | h
      · exact absurd h hn2
      · rw [List.mem_singleton.mp h, tm]; exact Or.inl rfl
    · rw [List.mem_singleton.mp h, tr]; exact Or.inl rfl
  have heS : Ext SC L f tg ((L ++ [ma]) ++ [ra], f') (va_up (va_up tg ma (n, 0)) ra (n, 1)) := he.mono (fun i hi => hi.elim (fun z => Or.inl (by omega)) Or.inr)
  refine ⟨⟨⟨⟨kL _ a1, by rw [kt _ a1]; exact a2, h4⟩, ⟨kL _ b1, by rw [kt _ b1]; exact b2, h3⟩, ⟨kL _ c1, by rw [kt _ c1]; exact c2, by rw [ne _ c1 (by rw [c2]; simp) (by rw [c2]; simp)]; exact c3⟩⟩, fun k h1 h2 => by rw [va_up_ne _ _ (by omega)]; exact d9 k (by omega) h2, fun k hk => ?_⟩, heS⟩
  rw [cnt_app]
  by_cases q : k = n
  · subst q
    rw [if_pos rfl, hz, Nat.zero_add, va_up_self, va_up_self]
    exact ⟨ma, ra, N, fun _ => none, rfl, ⟨⟨mem_l mem_r, tm, h1⟩, ⟨mem_r, tr, h2⟩, hNle, fun j => by rw [hbz]; decide, fun r hr => Or.inl ⟨rfl, fun j _ => hbz _⟩⟩, hN⟩
  · rw [if_neg q, va_up_ne _ _ q, va_up_ne _ _ q]
    obtain ⟨am2, ra2, N2, g2, e1, e2, e3⟩ := e k (by omega)
    exact ⟨am2, ra2, N2, g2, e1, memG_ext e2 he (fun z => z.elim q (fun z => by omega)), e3⟩
end RT
