/-! THE PICTURE OF THE REFERENCE (region 200) -/
/-- the byte j of its row R -/
def md (om : Nat → Nat) (al : Nat) (bs : Nat → Nat → Nat) (R j : Nat) : Nat := if R / 64 < al then bs (om (R / 64)) (65536 * cnt om (R / 64) (om (R / 64)) + 1024 * (R % 64) + j) else 0
def brow (kc : Nat → ClassId) (L : List Nat) (f : Nat → va_E) (tg : Nat → Nat × Nat) (R : Nat) (o : Option Nat) (c : Nat → Nat) : Prop :=
  (o = none ∧ ∀ j, j < 1024 → c j = 0) ∨ (∃ (b : Nat) (h : Nat → Int32), o = some b ∧ b ∈ L ∧ tg b = (200, 6 + R) ∧ f b = .inl (kc 0, 1024, .inl h) ∧ ∀ j, j < 1024 → h j = sb_b (c j))
def modG (kc : Nat → ClassId) (L : List Nat) (f : Nat → va_E) (tg : Nat → Nat × Nat) (d mst ow ix bb cpy : Nat) (gb : Nat → Option Nat) (hm ho hi hc : Nat → Int32) (th : Int32) (n : Nat) (mo : Nat → Int32) (om : Nat → Nat) (al : Nat) (bs : Nat → Nat → Nat) : Prop :=
  (d ∈ L ∧ tg d = (200, 0) ∧ f d = .inr (3, [.int th, .int (nI n), .ref mst, .int (nI al), .ref ow, .ref ix, .ref bb, .ref cpy])) ∧ (mst ∈ L ∧ tg mst = (200, 1) ∧ f mst = .inl (kc 3, 24, .inl hm)) ∧ (ow ∈ L ∧ tg ow = (200, 2) ∧ f ow = .inl (kc 3, 16, .inl ho)) ∧ (ix ∈ L ∧ tg ix = (200, 3) ∧ f ix = .inl (kc 3, 16, .inl hi)) ∧ (bb ∈ L ∧ tg bb = (200, 4) ∧ f bb = .inl (kc 4, 1024, .inr (.inr (.inr (.inr gb))))) ∧ (cpy ∈ L ∧ tg cpy = (200, 5) ∧ f cpy = .inl (kc 3, 4096, .inl hc)) ∧
  (∀ k, k < n → hm k = mo k) ∧ (∀ k, k < al → ho k = nI (om k) ∧ hi k = nI (cnt om k (om k))) ∧ ∀ R, R < 1024 → brow kc L f tg R (gb R) (md om al bs R)
def modP (kc : Nat → ClassId) (L : List Nat) (f : Nat → va_E) (tg : Nat → Nat × Nat) (d : Nat) (th : Int32) (n : Nat) (mo : Nat → Int32) (om : Nat → Nat) (al : Nat) (bs : Nat → Nat → Nat) : Prop := ∃ (mst ow ix bb cpy : Nat) (gb : Nat → Option Nat) (hm ho hi hc : Nat → Int32), modG kc L f tg d mst ow ix bb cpy gb hm ho hi hc th n mo om al bs
def SD : Nat → Prop := fun i => i = 200
theorem brow_keep {kc : Nat → ClassId} {L L' : List Nat} {f f' : Nat → va_E} {tg tg' : Nat → Nat × Nat} {R : Nat} {o : Option Nat} {c c' : Nat → Nat} (h : brow kc L f tg R o c) (hL : ∀ a, a ∈ L → a ∈ L') (ht : ∀ a, a ∈ L → tg' a = tg a) (hf : ∀ a, a ∈ L → tg a = (200, 6 + R) → f' a = f a) (hc : ∀ j, j < 1024 → c' j = c j) : brow kc L' f' tg' R o c' := by
  rcases h with ⟨h1, h2⟩ | ⟨b, hh, h1, h2, h3, h4, h5⟩
  · exact Or.inl ⟨h1, fun j hj => by rw [hc j hj]; exact h2 j hj⟩
  · exact Or.inr ⟨b, hh, h1, hL b h2, by rw [ht b h2]; exact h3, by rw [hf b h2 h3]; exact h4, fun j hj => by rw [hc j hj]; exact h5 j hj⟩
section MD
variable {kc : Nat → ClassId} {L : List Nat} {f : Nat → va_E} {tg : Nat → Nat × Nat} {d mst ow ix bb cpy : Nat} {gb : Nat → Option Nat} {hm ho hi hc : Nat → Int32} {th : Int32} {n : Nat} {mo : Nat → Int32} {om : Nat → Nat} {al : Nat} {bs : Nat → Nat → Nat}
theorem mod_ext {S : Nat → Prop} {u : pU} {tg' : Nat → Nat × Nat} (h : modG kc L f tg d mst ow ix bb cpy gb hm ho hi hc th n mo om al bs) (he : Ext S L f tg u tg') (hS : ¬ S 200) : modG kc u.1 u.2 tg' d mst ow ix bb cpy gb hm ho hi hc th n mo om al bs := by
  obtain ⟨⟨a1, a2, a3⟩, ⟨b1, b2, b3⟩, ⟨c1, c2, c3⟩, ⟨d1, d2, d3⟩, ⟨e1, e2, e3⟩, ⟨g1, g2, g3⟩, k1, k2, k3⟩ := h
  have kf : ∀ a, a ∈ L → (tg a).1 = 200 → u.2 a = f a := fun a ha ht => he.2.2.1 a ha (by rw [ht]; exact hS)
  exact ⟨⟨he.1 _ a1, by rw [he.2.1 _ a1]; exact a2, by rw [kf _ a1 (by rw [a2])]; exact a3⟩, ⟨he.1 _ b1, by rw [he.2.1 _ b1]; exact b2, by rw [kf _ b1 (by rw [b2])]; exact b3⟩, ⟨he.1 _ c1, by rw [he.2.1 _ c1]; exact c2, by rw [kf _ c1 (by rw [c2])]; exact c3⟩, ⟨he.1 _ d1, by rw [he.2.1 _ d1]; exact d2, by rw [kf _ d1 (by rw [d2])]; exact d3⟩, ⟨he.1 _ e1, by rw [he.2.1 _ e1]; exact e2, by rw [kf _ e1 (by rw [e2])]; exact e3⟩, ⟨he.1 _ g1, by rw [he.2.1 _ g1]; exact g2, by rw [kf _ g1 (by rw [g2])]; exact g3⟩, k1, k2, fun R hR => brow_keep (k3 R hR) he.1 he.2.1 (fun a ha ht => kf a ha (by rw [ht])) (fun _ _ => rfl)⟩
/-- cells of its own have changed, but no row -/
theorem mod_upd {f' : Nat → va_E} {hm' ho' hi' hc' : Nat → Int32} {th' : Int32} {n' : Nat} {mo' : Nat → Int32} {om' : Nat → Nat} {al' : Nat} {bs' : Nat → Nat → Nat} (h : modG kc L f tg d mst ow ix bb cpy gb hm ho hi hc th n mo om al bs) (e0 : f' d = .inr (3, [.int th', .int (nI n'), .ref mst, .int (nI al'), .ref ow, .ref ix, .ref bb, .ref cpy])) (e1 : f' mst = .inl (kc 3, 24, .inl hm')) (e2 : f' ow = .inl (kc 3, 16, .inl ho')) (e3 : f' ix = .inl (kc 3, 16, .inl hi')) (e5 : f' cpy = .inl (kc 3, 4096, .inl hc')) (hk : ∀ a, a ∈ L → a ≠ d → a ≠ mst → a ≠ ow → a ≠ ix → a ≠ cpy → f' a = f a) (c1 : ∀ k, k < n' → hm' k = mo' k) (c2 : ∀ k, k < al' → ho' k = nI (om' k) ∧ hi' k = nI (cnt om' k (om' k))) (c3 : ∀ R, R < 1024 → ∀ j, j < 1024 → md om' al' bs' R j = md om al bs R j) :
    modG kc L f' tg d mst ow ix bb cpy gb hm' ho' hi' hc' th' n' mo' om' al' bs' ∧ Ext SD L f tg (L, f') tg := by
  obtain ⟨⟨a1, a2, a3⟩, ⟨b1, b2, b3⟩, ⟨d1, d2, d3⟩, ⟨e9, e8, e7⟩, ⟨g1, g2, g3⟩, ⟨i1, i2, i3⟩, k1, k2, k3⟩ := h
  have kf : ∀ a, a ∈ L → tg a ≠ (200, 0) → tg a ≠ (200, 1) → tg a ≠ (200, 2) → tg a ≠ (200, 3) → tg a ≠ (200, 5) → f' a = f a := fun a ha z0 z1 z2 z3 z5 => hk a ha (fun e => z0 (e ▸ a2)) (fun e => z1 (e ▸ b2)) (fun e => z2 (e ▸ d2)) (fun e => z3 (e ▸ e8)) (fun e => z5 (e ▸ i2))
  refine ⟨⟨⟨a1, a2, e0⟩, ⟨b1, b2, e1⟩, ⟨d1, d2, e2⟩, ⟨e9, e8, e3⟩, ⟨g1, g2, by rw [kf _ g1 (by rw [g2]; simp) (by rw [g2]; simp) (by rw [g2]; simp) (by rw [g2]; simp) (by rw [g2]; simp)]; exact g3⟩, ⟨i1, i2, e5⟩, c1, c2, fun R hR => brow_keep (k3 R hR) (fun _ h => h) (fun _ _ => rfl) (fun a ha ht => kf a ha ?_ ?_ ?_ ?_ ?_) (c3 R hR)⟩, fun _ h => h, fun _ _ => rfl, fun a ha hs => kf a ha ?_ ?_ ?_ ?_ ?_, fun _ h h2 => absurd h h2⟩
  all_goals first | (rw [ht]; simp only [ne_eq, Prod.mk.injEq, not_and]; omega) | (intro z; exact hs (by rw [z]; rfl))
/-- where a page lies -/
theorem cnt_mono (om : Nat → Nat) (k a : Nat) : ∀ d, cnt om a k ≤ cnt om (a + d) k
  | 0 => Nat.le_refl _
  | d + 1 => Nat.le_trans (cnt_mono om k a d) (Nat.le_add_right _ _)
theorem cnt_step {om : Nat → Nat} {k a : Nat} (h : om a = k) : cnt om (a + 1) k = cnt om a k + 1 := by
  show cnt om a k + (if om a = k then 1 else 0) = _
  rw [if_pos h]
theorem sl_un {om : Nat → Nat} {k a b : Nat} (ha : om a = k) (hb : om b = k) (h : cnt om a k = cnt om b k) : a = b := by
  rcases Nat.lt_trichotomy a b with q | q | q
  · have h1 := cnt_mono om k (a + 1) (b - (a + 1))
    rw [show a + 1 + (b - (a + 1)) = b by omega, cnt_step ha] at h1
    omega
  · exact q
  · have h1 := cnt_mono om k (b + 1) (a - (b + 1))
    rw [show b + 1 + (a - (b + 1)) = a by omega, cnt_step hb] at h1
    omega
theorem sl_ex {om : Nat → Nat} {k : Nat} : ∀ al i, i < cnt om al k → ∃ s, s < al ∧ om s = k ∧ cnt om s k = i
  | 0, i, h => absurd h (Nat.not_lt_zero i)
  | al + 1, i, h => by
    by_cases q : i < cnt om al k
    · obtain ⟨s, h1, h2, h3⟩ := sl_ex al i q
      exact ⟨s, by omega, h2, h3⟩
    · have h2 : i < cnt om al k + (if om al = k then 1 else 0) := h
      by_cases e : om al = k
      · rw [if_pos e] at h2
        exact ⟨al, by omega, e, by omega⟩
      · rw [if_neg e] at h2
        omega
/-- the row and the place in it of the place p of memory k -/
theorem md_at {s p k : Nat} (h1 : s < al) (h2 : om s = k) (h3 : cnt om s k = p / 65536) : md om al bs (64 * s + p % 65536 / 1024) (p % 1024) = bs k p := by
  unfold md
  rw [show (64 * s + p % 65536 / 1024) / 64 = s by omega, if_pos h1, h2, h3, show (64 * s + p % 65536 / 1024) % 64 = p % 65536 / 1024 by omega]
  congr 1
  omega
theorem md_up {s p k v : Nat} (h1 : s < al) (h2 : om s = k) (h3 : cnt om s k = p / 65536) (R j : Nat) (hj : j < 1024) : md om al (va_up bs k (va_up (bs k) p v)) R j = if R = 64 * s + p % 65536 / 1024 ∧ j = p % 1024 then v else md om al bs R j := by
  by_cases q : R = 64 * s + p % 65536 / 1024 ∧ j = p % 1024
  · rw [if_pos q, q.1, q.2, md_at h1 h2 h3, va_up_self, va_up_self]
  · rw [if_neg q]
    unfold md
    by_cases ha : R / 64 < al
    · rw [if_pos ha, if_pos ha]
      by_cases hk : om (R / 64) = k
      · rw [hk, va_up_self]
        refine va_up_ne _ _ (fun e => q ?_)
        have e2 : cnt om (R / 64) k = p / 65536 := by omega
        have e3 : R / 64 = s := sl_un hk h2 (e2.trans h3.symm)
        omega
      · rw [va_up_ne _ _ hk]
    · rw [if_neg ha, if_neg ha]
end MD
