/-! the reference: a byte is put, a row comes -/
def isRow (om : Nat → Nat) (al k p R : Nat) : Prop := ∃ s, s < al ∧ om s = k ∧ cnt om s k = p / 65536 ∧ R = 64 * s + p % 65536 / 1024
theorem isRow_un {om : Nat → Nat} {al k p p' R R' : Nat} (h : isRow om al k p R) (h' : isRow om al k p' R') (e : p / 1024 = p' / 1024) : R = R' := by
  obtain ⟨s, h1, h2, h3, h4⟩ := h
  obtain ⟨s', g1, g2, g3, g4⟩ := h'
  have := sl_un h2 g2 (by omega)
  omega
theorem isRow_lt {om : Nat → Nat} {al k p R : Nat} (ha : al ≤ 16) (h : isRow om al k p R) : R < 1024 := by
  obtain ⟨s, h1, h2, h3, h4⟩ := h
  omega
theorem isRow_ex {om : Nat → Nat} {al k p : Nat} (h : p < 65536 * cnt om al k) : ∃ R, isRow om al k p R := by
  obtain ⟨s, h1, h2, h3⟩ := sl_ex al (p / 65536) (by omega : p / 65536 < cnt om al k)
  exact ⟨_, s, h1, h2, h3, rfl⟩
section MP
variable {kc : Nat → ClassId} {L : List Nat} {f : Nat → va_E} {tg : Nat → Nat × Nat} {d mst ow ix bb cpy : Nat} {gb : Nat → Option Nat} {hm ho hi hc : Nat → Int32} {th : Int32} {n : Nat} {mo : Nat → Int32} {om : Nat → Nat} {al : Nat} {bs : Nat → Nat → Nat}
theorem mod_put (h : modG kc L f tg d mst ow ix bb cpy gb hm ho hi hc th n mo om al bs) {k p v R b : Nat} {hh : Nat → Int32} (hr : isRow om al k p R) (hg : gb R = some b) (hb : b ∈ L) (htb : tg b = (200, 6 + R)) (hfb : f b = .inl (kc 0, 1024, .inl hh)) (hv : ∀ j, j < 1024 → hh j = sb_b (md om al bs R j)) :
    modG kc L (va_up f b (.inl (kc 0, 1024, .inl (upd hh (p % 1024) (sb_b v))))) tg d mst ow ix bb cpy gb hm ho hi hc th n mo om al (va_up bs k (va_up (bs k) p v)) ∧ Ext SD L f tg (L, va_up f b (.inl (kc 0, 1024, .inl (upd hh (p % 1024) (sb_b v))))) tg := by
  obtain ⟨⟨a1, a2, a3⟩, ⟨b1, b2, b3⟩, ⟨c1, c2, c3⟩, ⟨d1, d2, d3⟩, ⟨e1, e2, e3⟩, ⟨g1, g2, g3⟩, k1, k2, k3⟩ := h
  obtain ⟨s, s1, s2, s3, s4⟩ := id hr
  have ne : ∀ a, tg a ≠ (200, 6 + R) → va_up f b (.inl (kc 0, 1024, .inl (upd hh (p % 1024) (sb_b v)))) a = f a := fun a ha => va_up_ne _ _ (fun q => ha (by rw [q]; exact htb))
  have nz : ∀ i, i < 6 → ((200 : Nat), i) ≠ (200, 6 + R) := fun i hi => by simp only [ne_eq, Prod.mk.injEq, not_and]; omega
  refine ⟨⟨⟨a1, a2, by rw [ne _ (by rw [a2]; exact nz 0 (by decide))]; exact a3⟩, ⟨b1, b2, by rw [ne _ (by rw [b2]; exact nz 1 (by decide))]; exact b3⟩, ⟨c1, c2, by rw [ne _ (by rw [c2]; exact nz 2 (by decide))]; exact c3⟩, ⟨d1, d2, by rw [ne _ (by rw [d2]; exact nz 3 (by decide))]; exact d3⟩, ⟨e1, e2, by rw [ne _ (by rw [e2]; exact nz 4 (by decide))]; exact e3⟩, ⟨g1, g2, by rw [ne _ (by rw [g2]; exact nz 5 (by decide))]; exact g3⟩, k1, k2, fun R2 hR2 => ?_⟩, Ext_up (by rw [htb]; rfl)⟩
  by_cases e : R2 = R
  · subst e
    refine Or.inr ⟨b, _, hg, hb, htb, va_up_self _ _ _, fun j hj => ?_⟩
    rw [md_up s1 s2 s3 _ _ hj]
    by_cases q : j = p % 1024
    · rw [if_pos ⟨s4, q⟩, q, pk_us]
    · rw [if_neg (fun z => q z.2), pk_un q]
      exact hv j hj
  · refine brow_keep (k3 R2 hR2) (fun _ h => h) (fun _ _ => rfl) (fun a _ ht => ne a (by rw [ht]; simp only [ne_eq, Prod.mk.injEq, not_and]; omega)) (fun j hj => ?_)
    rw [md_up s1 s2 s3 _ _ hj, if_neg (fun z => e (z.1.trans s4.symm))]
/-- nothing is put where 0 lies -/
theorem mod_zero (h : modG kc L f tg d mst ow ix bb cpy gb hm ho hi hc th n mo om al bs) {k p R : Nat} (hr : isRow om al k p R) (hR : R < 1024) (hg : gb R = none) : va_up bs k (va_up (bs k) p 0) = bs := by
  obtain ⟨s, s1, s2, s3, s4⟩ := hr
  have hz : bs k p = 0 := by
    rcases h.2.2.2.2.2.2.2.2 R hR with ⟨-, z⟩ | ⟨b, hh, z, -⟩
    · rw [← md_at (bs := bs) s1 s2 s3, ← s4]; exact z _ (by omega)
    · rw [hg] at z; cases z
  funext a j
  by_cases q : a = k
  · subst q
    rw [va_up_self]
    by_cases q2 : j = p
    · rw [q2, va_up_self, hz]
    · rw [va_up_ne _ _ q2]
  · rw [va_up_ne _ _ q]
theorem mod_new (h : modG kc L f tg d mst ow ix bb cpy gb hm ho hi hc th n mo om al bs) {R q : Nat} {f' : Nat → va_E} (hR : R < 1024) (hg : gb R = none) (hq : q ∉ L) (h1 : f' q = .inl (kc 0, 1024, .inl (fun _ => 0))) (h2 : f' bb = .inl (kc 4, 1024, .inr (.inr (.inr (.inr (va_up gb R (some q))))))) (h3 : ∀ a, a ∈ L → a ≠ bb → f' a = f a) :
    ∃ tg', modG kc (L ++ [q]) f' tg' d mst ow ix bb cpy (va_up gb R (some q)) hm ho hi hc th n mo om al bs ∧ Ext SD L f tg (L ++ [q], f') tg' ∧ tg' q = (200, 6 + R) := by
  obtain ⟨⟨a1, a2, a3⟩, ⟨b1, b2, b3⟩, ⟨c1, c2, c3⟩, ⟨d1, d2, d3⟩, ⟨e1, e2, e3⟩, ⟨g1, g2, g3⟩, k1, k2, k3⟩ := h
  have kt : ∀ a, a ∈ L → va_up tg q (200, 6 + R) a = tg a := fun a ha => va_up_ne _ _ (ne_in ha hq)
  have kf : ∀ a, a ∈ L → tg a ≠ (200, 4) → f' a = f a := fun a ha hz => h3 a ha (fun e => hz (e ▸ e2))
  refine ⟨va_up tg q (200, 6 + R), ⟨⟨mem_l a1, by rw [kt _ a1]; exact a2, by rw [kf _ a1 (by rw [a2]; simp)]; exact a3⟩, ⟨mem_l b1, by rw [kt _ b1]; exact b2, by rw [kf _ b1 (by rw [b2]; simp)]; exact b3⟩, ⟨mem_l c1, by rw [kt _ c1]; exact c2, by rw [kf _ c1 (by rw [c2]; simp)]; exact c3⟩, ⟨mem_l d1, by rw [kt _ d1]; exact d2, by rw [kf _ d1 (by rw [d2]; simp)]; exact d3⟩, ⟨mem_l e1, by rw [kt _ e1]; exact e2, h2⟩, ⟨mem_l g1, by rw [kt _ g1]; exact g2, by rw [kf _ g1 (by rw [g2]; simp)]; exact g3⟩, k1, k2, fun R2 hR2 => ?_⟩, ⟨fun a ha => mem_l ha, kt, fun a ha hs => kf a ha (fun z => hs (by rw [z]; rfl)), fun a ha hn => ?_⟩, va_up_self _ _ _⟩
  · by_cases e : R2 = R
    · subst e
      have hz : ∀ j, j < 1024 → md om al bs R2 j = 0 := by
        rcases k3 R2 hR2 with ⟨-, z⟩ | ⟨b, hh, z, -⟩
        · exact z
        · rw [hg] at z; cases z
      exact Or.inr ⟨q, fun _ => 0, va_up_self _ _ _, mem_r, va_up_self _ _ _, h1, fun j hj => by rw [hz j hj]; rfl⟩
    · rw [va_up_ne _ _ e]
      exact brow_keep (k3 R2 hR2) (fun a ha => mem_l ha) kt (fun a ha ht => kf a ha (by rw [ht]; simp only [ne_eq, Prod.mk.injEq, not_and]; omega)) (fun _ _ => rfl)
  · rcases List.mem_append.mp ha with h | h
    · exact absurd h hn
    · rw [List.mem_singleton.mp h, va_up_self]; rfl
end MP
