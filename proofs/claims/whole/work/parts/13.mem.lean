/-! THE PICTURE OF A MEMORY. tg: every address of the pool has a region and a place in it; region k < 24: memory k -/
def rowAt (kc : Nat → ClassId) (L : List Nat) (f : Nat → va_E) (tg : Nat → Nat × Nat) (k r : Nat) (o : Option Nat) (bs : Nat → Nat) : Prop :=
  (o = none ∧ ∀ j, j < 1024 → bs (1024 * r + j) = 0) ∨
  (∃ (w b : Nat) (h : Nat → Int32), o = some w ∧ w ∈ L ∧ tg w = (k, 2 + 2 * r) ∧ f w = .inr (1, [.ref b]) ∧ b ∈ L ∧ tg b = (k, 3 + 2 * r) ∧ f b = .inl (kc 0, 1024, .inl h) ∧ ∀ j, j < 1024 → h j = sb_b (bs (1024 * r + j)))
def memG (kc : Nat → ClassId) (L : List Nat) (f : Nat → va_E) (tg : Nat → Nat × Nat) (k am ra : Nat) (mo : Int32) (pg N : Nat) (g : Nat → Option Nat) (bs : Nat → Nat) : Prop :=
  (am ∈ L ∧ tg am = (k, 0) ∧ f am = .inr (0, [.int mo, .int (nI pg), .ref ra])) ∧ (ra ∈ L ∧ tg ra = (k, 1) ∧ f ra = .inl (kc 2, N, .inr (.inr (.inr (.inr g))))) ∧ N ≤ 1024 ∧ (∀ j, bs j < 256) ∧ ∀ r, r < N → rowAt kc L f tg k r (g r) bs
def Ext (S : Nat → Prop) (L : List Nat) (f : Nat → va_E) (tg : Nat → Nat × Nat) (u : pU) (tg' : Nat → Nat × Nat) : Prop :=
  (∀ a, a ∈ L → a ∈ u.1) ∧ (∀ a, a ∈ L → tg' a = tg a) ∧ (∀ a, a ∈ L → ¬ S (tg a).1 → u.2 a = f a) ∧ (∀ a, a ∈ u.1 → a ∉ L → S (tg' a).1)
theorem Ext.rf {S : Nat → Prop} {L : List Nat} {f : Nat → va_E} {tg : Nat → Nat × Nat} : Ext S L f tg (L, f) tg := ⟨fun _ h => h, fun _ _ => rfl, fun _ _ _ => rfl, fun _ h h2 => absurd h h2⟩
theorem Ext.tr {S : Nat → Prop} {L : List Nat} {f : Nat → va_E} {tg t1 t2 : Nat → Nat × Nat} {u v : pU} (h1 : Ext S L f tg u t1) (h2 : Ext S u.1 u.2 t1 v t2) : Ext S L f tg v t2 := by
  refine ⟨fun a h => h2.1 a (h1.1 a h), fun a h => (h2.2.1 a (h1.1 a h)).trans (h1.2.1 a h), fun a h hs => ?_, fun a h hn => ?_⟩
  · rw [h2.2.2.1 a (h1.1 a h) (by rw [h1.2.1 a h]; exact hs), h1.2.2.1 a h hs]
  · by_cases hu : a ∈ u.1
    · rw [h2.2.1 a hu]; exact h1.2.2.2 a hu hn
    · exact h2.2.2.2 a h hu
theorem Ext.mono {S S' : Nat → Prop} {L : List Nat} {f : Nat → va_E} {tg t1 : Nat → Nat × Nat} {u : pU} (h : Ext S L f tg u t1) (hS : ∀ k, S k → S' k) : Ext S' L f tg u t1 := ⟨h.1, h.2.1, fun a ha hs => h.2.2.1 a ha (fun q => hs (hS _ q)), fun a ha hn => hS _ (h.2.2.2 a ha hn)⟩
theorem rowAt_keep {kc : Nat → ClassId} {L L' : List Nat} {f f' : Nat → va_E} {tg tg' : Nat → Nat × Nat} {k r : Nat} {o : Option Nat} {bs bs' : Nat → Nat} (h : rowAt kc L f tg k r o bs) (hL : ∀ a, a ∈ L → a ∈ L') (ht : ∀ a, a ∈ L → tg' a = tg a) (hf : ∀ a, a ∈ L → (tg a = (k, 2 + 2 * r) ∨ tg a = (k, 3 + 2 * r)) → f' a = f a) (hb : ∀ j, j < 1024 → bs' (1024 * r + j) = bs (1024 * r + j)) : rowAt kc L' f' tg' k r o bs' := by
  rcases h with ⟨h1, h2⟩ | ⟨w, b, hh, h1, h2, h3, h4, h5, h6, h7, h8⟩
  · exact Or.inl ⟨h1, fun j hj => by rw [hb j hj]; exact h2 j hj⟩
  · exact Or.inr ⟨w, b, hh, h1, hL w h2, by rw [ht w h2]; exact h3, by rw [hf w h2 (Or.inl h3)]; exact h4, hL b h5, by rw [ht b h5]; exact h6, by rw [hf b h5 (Or.inr h6)]; exact h7, fun j hj => by rw [hb j hj]; exact h8 j hj⟩
/-- a memory of another region is as it was -/
theorem memG_ext {S : Nat → Prop} {kc : Nat → ClassId} {L : List Nat} {f : Nat → va_E} {tg tg' : Nat → Nat × Nat} {u : pU} {k am ra : Nat} {mo : Int32} {pg N : Nat} {g : Nat → Option Nat} {bs : Nat → Nat} (h : memG kc L f tg k am ra mo pg N g bs) (he : Ext S L f tg u tg') (hk : ¬ S k) : memG kc u.1 u.2 tg' k am ra mo pg N g bs := by
  obtain ⟨⟨a1, a2, a3⟩, ⟨b1, b2, b3⟩, hN, hb, hr⟩ := h
  have kf : ∀ a, a ∈ L → (tg a).1 = k → u.2 a = f a := fun a ha ht => he.2.2.1 a ha (by rw [ht]; exact hk)
  refine ⟨⟨he.1 _ a1, by rw [he.2.1 _ a1]; exact a2, by rw [kf _ a1 (by rw [a2])]; exact a3⟩, ⟨he.1 _ b1, by rw [he.2.1 _ b1]; exact b2, by rw [kf _ b1 (by rw [b2])]; exact b3⟩, hN, hb, fun r h => rowAt_keep (hr r h) he.1 he.2.1 (fun a ha ht => kf a ha (by rcases ht with q | q <;> rw [q])) (fun _ _ => rfl)⟩
/-- a byte put into a row that is there -/
theorem memG_put {kc : Nat → ClassId} {L : List Nat} {f : Nat → va_E} {tg : Nat → Nat × Nat} {k am ra : Nat} {mo : Int32} {pg N : Nat} {g : Nat → Option Nat} {bs : Nat → Nat} (h : memG kc L f tg k am ra mo pg N g bs) {r w b : Nat} {hh : Nat → Int32} (hr : r < N) (hg : g r = some w) (hw : w ∈ L) (htw : tg w = (k, 2 + 2 * r)) (hfw : f w = .inr (1, [.ref b])) (hb : b ∈ L) (htb : tg b = (k, 3 + 2 * r)) (hfb : f b = .inl (kc 0, 1024, .inl hh)) {h' : Nat → Int32} {bs' : Nat → Nat} (hb' : ∀ j, bs' j < 256) (hin : ∀ j, j < 1024 → h' j = sb_b (bs' (1024 * r + j))) (hout : ∀ j, (j < 1024 * r ∨ 1024 * r + 1024 ≤ j) → bs' j = bs j) :
    memG kc L (va_up f b (.inl (kc 0, 1024, .inl h'))) tg k am ra mo pg N g bs' ∧ Ext (fun i => i = k) L f tg (L, va_up f b (.inl (kc 0, 1024, .inl h'))) tg := by
  obtain ⟨⟨a1, a2, a3⟩, ⟨b1, b2, b3⟩, hN, -, hrow⟩ := h
  have ne : ∀ a, tg a ≠ (k, 3 + 2 * r) → va_up f b (.inl (kc 0, 1024, .inl h')) a = f a := fun a ha => va_up_ne _ _ (fun q => ha (by rw [q]; exact htb))
  refine ⟨⟨⟨a1, a2, by rw [ne _ (by rw [a2]; simp only [ne_eq, Prod.mk.injEq, not_and]; omega)]; exact a3⟩, ⟨b1, b2, by rw [ne _ (by rw [b2]; simp only [ne_eq, Prod.mk.injEq, not_and]; omega)]; exact b3⟩, hN, hb', fun r' hr' => ?_⟩, fun _ h => h, fun _ _ => rfl, fun a _ hs => ?_, fun a h h2 => absurd h h2⟩
  · by_cases e : r' = r
    · subst e
      exact Or.inr ⟨w, b, h', hg, hw, htw, by rw [ne _ (by rw [htw]; simp only [ne_eq, Prod.mk.injEq, not_and]; omega)]; exact hfw, hb, htb, va_up_self _ _ _, hin⟩
    · refine rowAt_keep (hrow r' hr') (fun _ h => h) (fun _ _ => rfl) (fun a _ ht => ne a ?_) (fun j hj => hout _ ?_)
      · rcases ht with q | q <;> rw [q] <;> simp only [ne_eq, Prod.mk.injEq, not_and] <;> omega
      · rcases Nat.lt_or_gt_of_ne e with q | q
        · left
          have := Nat.mul_le_mul_left 1024 (show r' + 1 ≤ r from q)
          omega
        · right
          have := Nat.mul_le_mul_left 1024 (show r + 1 ≤ r' from q)
          omega
  · exact va_up_ne _ _ (fun q => hs (by rw [q, htb]))
/-- a row comes to be -/
theorem memG_new {kc : Nat → ClassId} {L : List Nat} {f : Nat → va_E} {tg : Nat → Nat × Nat} {k am ra : Nat} {mo : Int32} {pg N : Nat} {g : Nat → Option Nat} {bs : Nat → Nat} (h : memG kc L f tg k am ra mo pg N g bs) {r q b : Nat} (hr : r < N) (hg : g r = none) (hq : q ∉ L) (hb : b ∉ L) (hqb : q ≠ b) {f' : Nat → va_E} (h1 : f' q = .inr (1, [.ref b])) (h2 : f' b = .inl (kc 0, 1024, .inl (fun _ => 0))) (h3 : f' ra = .inl (kc 2, N, .inr (.inr (.inr (.inr (va_up g r (some q))))))) (h4 : ∀ a, a ∈ L → a ≠ ra → f' a = f a) :
    ∃ tg', memG kc ((L ++ [q]) ++ [b]) f' tg' k am ra mo pg N (va_up g r (some q)) bs ∧ Ext (fun i => i = k) L f tg ((L ++ [q]) ++ [b], f') tg' := by
  obtain ⟨⟨a1, a2, a3⟩, ⟨b1, b2, b3⟩, hN, hb2, hrow⟩ := h
  refine ⟨va_up (va_up tg q (k, 2 + 2 * r)) b (k, 3 + 2 * r), ?_⟩
  have kt : ∀ a, a ∈ L → va_up (va_up tg q (k, 2 + 2 * r)) b (k, 3 + 2 * r) a = tg a := fun a ha => by
    have e1 : a ≠ b := fun e => hb (e ▸ ha)
    have e2 : a ≠ q := fun e => hq (e ▸ ha)
    rw [va_up_ne _ _ e1, va_up_ne _ _ e2]
  have tq : va_up (va_up tg q (k, 2 + 2 * r)) b (k, 3 + 2 * r) q = (k, 2 + 2 * r) := by rw [va_up_ne _ _ hqb, va_up_self]
  have tb : va_up (va_up tg q (k, 2 + 2 * r)) b (k, 3 + 2 * r) b = (k, 3 + 2 * r) := va_up_self _ _ _
  have kL : ∀ a, a ∈ L → a ∈ (L ++ [q]) ++ [b] := fun a ha => List.mem_append_left _ (List.mem_append_left _ ha)
  have mq : q ∈ (L ++ [q]) ++ [b] := List.mem_append_left _ (List.mem_append_right _ List.mem_cons_self)
  have mb : b ∈ (L ++ [q]) ++ [b] := List.mem_append_right _ List.mem_cons_self
  have nra : ∀ a, tg a ≠ (k, 1) → a ≠ ra := fun a ha e => ha (e ▸ b2)
  refine ⟨⟨⟨kL _ a1, by rw [kt _ a1]; exact a2, by rw [h4 _ a1 (nra _ (by rw [a2]; simp))]; exact a3⟩, ⟨kL _ b1, by rw [kt _ b1]; exact b2, h3⟩, hN, hb2, fun r' hr' => ?_⟩, kL, kt, fun a ha hs => h4 a ha (fun e => hs (by rw [e, b2])), fun a ha hn => ?_⟩
  · by_cases e : r' = r
    · subst e
      have hz : ∀ j, j < 1024 → bs (1024 * r' + j) = 0 := by
        rcases hrow r' hr' with ⟨-, z⟩ | ⟨w, -, -, z, -⟩
        · exact z
        · rw [hg] at z; cases z
      exact Or.inr ⟨q, b, fun _ => 0, va_up_self _ _ _, mq, tq, h1, mb, tb, h2, fun j hj => by rw [hz j hj]; rfl⟩
    · rw [va_up_ne _ _ e]
      exact rowAt_keep (hrow r' hr') kL kt (fun a ha ht => h4 a ha (nra a (by rcases ht with z | z <;> rw [z] <;> simp only [ne_eq, Prod.mk.injEq, not_and] <;> omega))) (fun _ _ => rfl)
  · rcases List.mem_append.mp ha with h | h
    · rcases List.mem_append.mp h with h | h
      · exact absurd h hn
      · rw [List.mem_singleton.mp h, tq]
    · rw [List.mem_singleton.mp h, tb]
