/-! ONE CALL, AS A RELATION: S the state, r what was thrown, v the answer, S1 the state behind it -/
abbrev ST : Type := Nat × (Nat → Int32) × (Nat → Nat) × Nat × (Nat → Nat → Nat)
def okS (S : ST) : Prop := stOK S.1 S.2.1 S.2.2.1 S.2.2.2.1 S.2.2.2.2
def rP (kc : Nat → ClassId) (u : pU) (tg : Nat → Nat × Nat) (x : Nat) (S : ST) : Prop := rootP kc u.1 u.2 tg x S.1 S.2.1 S.2.2.1 S.2.2.2.1 S.2.2.2.2
def mP (kc : Nat → ClassId) (u : pU) (tg : Nat → Nat × Nat) (d : Nat) (th : Int32) (S : ST) : Prop := modP kc u.1 u.2 tg d th S.1 S.2.1 S.2.2.1 S.2.2.2.1 S.2.2.2.2
section AN
variable (nm : Nat) (mo : Nat → Int32) (om : Nat → Nat) (al : Nat) (bs : Nat → Nat → Nat)
def AN_make (least most r : Int32) (v : Int64) (S1 : ST) : Prop := (r = 0 ∧ okM least most ∧ nm < 24 ∧ al + uI least ≤ 16 ∧ v = (nI nm).toInt64 ∧ S1 = (nm + 1, va_up mo nm most, appN om al nm, al + uI least, bs)) ∨ (r = 1 ∧ ¬ okM least most ∧ S1 = (nm, mo, om, al, bs)) ∨ (r = 2 ∧ okM least most ∧ nm = 24 ∧ S1 = (nm, mo, om, al, bs)) ∨ (r = 3 ∧ okM least most ∧ nm < 24 ∧ ¬ (al + uI least ≤ 16) ∧ S1 = (nm, mo, om, al, bs))
def AN_pages (mm r : Int32) (v : Int64) (S1 : ST) : Prop := (r = 0 ∧ ∃ k, k < nm ∧ mm = nI k ∧ v = (nI (cnt om al k)).toInt64 ∧ S1 = (nm, mo, om, al, bs)) ∨ (r = 1 ∧ ¬ (∃ k, k < nm ∧ mm = nI k) ∧ S1 = (nm, mo, om, al, bs))
def AN_fits (mm least most r : Int32) (v : Int64) (S1 : ST) : Prop := (r = 0 ∧ ∃ k, k < nm ∧ mm = nI k ∧ v = (if fitV (nI (cnt om al k)) (mo k) least most = 0 then 0 else 1) ∧ S1 = (nm, mo, om, al, bs)) ∨ (r = 1 ∧ ¬ (∃ k, k < nm ∧ mm = nI k) ∧ S1 = (nm, mo, om, al, bs))
def AN_grow (mm gn r : Int32) (v : Int64) (S1 : ST) : Prop := (r = 0 ∧ ∃ k, k < nm ∧ mm = nI k ∧ ∃ lim, limP (mo k) lim ∧ ((¬ (cnt om al k + uI gn ≤ lim ∧ al + uI gn ≤ 16) ∧ v = (-1 : Int32).toInt64 ∧ S1 = (nm, mo, om, al, bs)) ∨ (cnt om al k + uI gn ≤ lim ∧ al + uI gn ≤ 16 ∧ v = (nI (cnt om al k)).toInt64 ∧ S1 = (nm, mo, appN om al k, al + uI gn, bs)))) ∨ (r = 1 ∧ ¬ (∃ k, k < nm ∧ mm = nI k) ∧ S1 = (nm, mo, om, al, bs))
def AN_load (mm op ad of r : Int32) (v : Int64) (S1 : ST) : Prop := (r = 0 ∧ ∃ k, k < nm ∧ mm = nI k ∧ ∃ kd, kd < 14 ∧ op = nI (40 + kd) ∧ uI ad + uI of + szL kd ≤ 65536 * cnt om al k ∧ v = loadV kd (lN (leN (bs k) (uI ad + uI of) (szL kd))) ∧ S1 = (nm, mo, om, al, bs)) ∨ (r = 1 ∧ ¬ ((∃ k, k < nm ∧ mm = nI k) ∧ ∃ kd, kd < 14 ∧ op = nI (40 + kd)) ∧ S1 = (nm, mo, om, al, bs)) ∨ (r = 2 ∧ (∃ k, k < nm ∧ mm = nI k ∧ ∃ kd, kd < 14 ∧ op = nI (40 + kd) ∧ ¬ (uI ad + uI of + szL kd ≤ 65536 * cnt om al k)) ∧ S1 = (nm, mo, om, al, bs))
def AN_store (mm op ad of : Int32) (vl : Int64) (r : Int32) (_ : Int64) (S1 : ST) : Prop := (r = 0 ∧ ∃ k, k < nm ∧ mm = nI k ∧ ∃ kd, kd < 9 ∧ op = nI (54 + kd) ∧ uI ad + uI of + szS kd ≤ 65536 * cnt om al k ∧ S1 = (nm, mo, om, al, va_up bs k (putN (bs k) (uI ad + uI of) (uL vl) (szS kd)))) ∨ (r = 1 ∧ ¬ ((∃ k, k < nm ∧ mm = nI k) ∧ ∃ kd, kd < 9 ∧ op = nI (54 + kd)) ∧ S1 = (nm, mo, om, al, bs)) ∨ (r = 2 ∧ (∃ k, k < nm ∧ mm = nI k ∧ ∃ kd, kd < 9 ∧ op = nI (54 + kd) ∧ ¬ (uI ad + uI of + szS kd ≤ 65536 * cnt om al k)) ∧ S1 = (nm, mo, om, al, bs))
def AN_copy (mm fr m2 to9 cn r : Int32) (_ : Int64) (S1 : ST) : Prop := (r = 0 ∧ ∃ k1, k1 < nm ∧ mm = nI k1 ∧ ∃ k2, k2 < nm ∧ m2 = nI k2 ∧ ∃ nb, nb ≤ 4096 ∧ cn = nI nb ∧ ((nb = 0 ∧ S1 = (nm, mo, om, al, bs)) ∨ (0 < nb ∧ ∃ P, fr = nI P ∧ P + nb ≤ 65536 * cnt om al k1 ∧ ∃ P2, to9 = nI P2 ∧ P2 + nb ≤ 65536 * cnt om al k2 ∧ S1 = (nm, mo, om, al, va_up bs k2 (cpN (bs k2) P2 nb (fun j => bs k1 (P + j))))))) ∨ (r = 1 ∧ ¬ ((∃ k, k < nm ∧ mm = nI k) ∧ (∃ k, k < nm ∧ m2 = nI k) ∧ ¬ cn < 0 ∧ cn ≤ 4096) ∧ S1 = (nm, mo, om, al, bs)) ∨ (r = 2 ∧ (∃ k1, k1 < nm ∧ mm = nI k1 ∧ ∃ k2, k2 < nm ∧ m2 = nI k2 ∧ ∃ nb, nb ≤ 4096 ∧ cn = nI nb ∧ 0 < nb ∧ ¬ ((∃ P, fr = nI P ∧ P + nb ≤ 65536 * cnt om al k1) ∧ ∃ P2, to9 = nI P2 ∧ P2 + nb ≤ 65536 * cnt om al k2)) ∧ S1 = (nm, mo, om, al, bs))
def AN_sum (mm fr cn r : Int32) (v : Int64) (S1 : ST) : Prop := (r = 0 ∧ ∃ k, k < nm ∧ mm = nI k ∧ ∃ nb, nb ≤ 65536 ∧ cn = nI nb ∧ (∃ r9 : Int32, ((nb = 0 ∧ r9 = 0) ∨ (0 < nb ∧ ∃ P, fr = nI P ∧ P + nb ≤ 65536 * cnt om al k ∧ r9 = wsum (bs k) P (nI nb) nb)) ∧ v = r9.toInt64) ∧ S1 = (nm, mo, om, al, bs)) ∨ (r = 1 ∧ ¬ ((∃ k, k < nm ∧ mm = nI k) ∧ ¬ cn < 0 ∧ cn ≤ 65536) ∧ S1 = (nm, mo, om, al, bs)) ∨ (r = 2 ∧ (∃ k, k < nm ∧ mm = nI k ∧ ∃ nb, nb ≤ 65536 ∧ cn = nI nb ∧ 0 < nb ∧ ¬ (∃ P, fr = nI P ∧ P + nb ≤ 65536 * cnt om al k)) ∧ S1 = (nm, mo, om, al, bs))
end AN
section FN
variable {nm : Nat} {mo : Nat → Int32} {om : Nat → Nat} {al : Nat} {bs : Nat → Nat → Nat} {r r' : Int32} {v v' : Int64} {S1 S2 : ST}
theorem k_un {a b : Nat} (hn : nm ≤ 24) (ha : a < nm) (hb : b < nm) {mm : Int32} (h1 : mm = nI a) (h2 : mm = nI b) : a = b := nI_inj (by omega) (by omega) (h1.symm.trans h2)
theorem cn_in {M nb : Nat} {cn : Int32} (hM : M ≤ 65536) (h : nb ≤ M) (e : cn = nI nb) : ¬ cn < 0 ∧ cn ≤ nI M := by
  subst e
  exact ⟨nI_pos (by omega), nI_le h (by omega)⟩
theorem fn_make {least most : Int32} (h1 : AN_make nm mo om al bs least most r v S1) (h2 : AN_make nm mo om al bs least most r' v' S2) : r' = r ∧ S2 = S1 ∧ (r = 0 → v = v') := by
  rcases h1 with ⟨a, b, c, d, e, f⟩ | ⟨a, b, c⟩ | ⟨a, b, c, d⟩ | ⟨a, b, c, d, e⟩ <;> rcases h2 with ⟨a', b', c', d', e', f'⟩ | ⟨a', b', c'⟩ | ⟨a', b', c', d'⟩ | ⟨a', b', c', d', e'⟩ <;> subst a <;> subst a' <;> first | (exfalso; omega) | (exfalso; exact absurd ‹okM least most› ‹¬ okM least most›) | (exfalso; exact ‹¬ (al + uI least ≤ 16)› ‹_›) | (subst f; subst f'; exact ⟨rfl, rfl, fun _ => e.trans e'.symm⟩) | (subst c; subst c'; exact ⟨rfl, rfl, fun q => absurd q (by decide)⟩) | (subst d; subst d'; exact ⟨rfl, rfl, fun q => absurd q (by decide)⟩) | (subst e; subst e'; exact ⟨rfl, rfl, fun q => absurd q (by decide)⟩)
theorem fn_pages {mm : Int32} (hn : nm ≤ 24) (h1 : AN_pages nm mo om al bs mm r v S1) (h2 : AN_pages nm mo om al bs mm r' v' S2) : r' = r ∧ S2 = S1 ∧ (r = 0 → v = v') := by
  rcases h1 with ⟨a, k, hk, hm, e, f⟩ | ⟨a, b, f⟩ <;> rcases h2 with ⟨a', k', hk', hm', e', f'⟩ | ⟨a', b', f'⟩ <;> subst a <;> subst a' <;> subst f <;> subst f'
  · have := k_un hn hk hk' hm hm'
    subst this
    exact ⟨rfl, rfl, fun _ => e.trans e'.symm⟩
  · exact absurd ⟨k, hk, hm⟩ b'
  · exact absurd ⟨k', hk', hm'⟩ b
  · exact ⟨rfl, rfl, fun q => absurd q (by decide)⟩
theorem fn_fits {mm least most : Int32} (hn : nm ≤ 24) (h1 : AN_fits nm mo om al bs mm least most r v S1) (h2 : AN_fits nm mo om al bs mm least most r' v' S2) : r' = r ∧ S2 = S1 ∧ (r = 0 → v = v') := by
  rcases h1 with ⟨a, k, hk, hm, e, f⟩ | ⟨a, b, f⟩ <;> rcases h2 with ⟨a', k', hk', hm', e', f'⟩ | ⟨a', b', f'⟩ <;> subst a <;> subst a' <;> subst f <;> subst f'
  · have := k_un hn hk hk' hm hm'
    subst this
    exact ⟨rfl, rfl, fun _ => e.trans e'.symm⟩
  · exact absurd ⟨k, hk, hm⟩ b'
  · exact absurd ⟨k', hk', hm'⟩ b
  · exact ⟨rfl, rfl, fun q => absurd q (by decide)⟩
theorem fn_grow {mm gn : Int32} (hn : nm ≤ 24) (h1 : AN_grow nm mo om al bs mm gn r v S1) (h2 : AN_grow nm mo om al bs mm gn r' v' S2) : r' = r ∧ S2 = S1 ∧ (r = 0 → v = v') := by
  rcases h1 with ⟨a, k, hk, hm, lim, hl, h1⟩ | ⟨a, b, f⟩ <;> rcases h2 with ⟨a', k', hk', hm', lim', hl', h2⟩ | ⟨a', b', f'⟩ <;> subst a <;> subst a'
  · have := k_un hn hk hk' hm hm'
    subst this
    have := limP_un hl hl'
    subst this
    rcases h1 with ⟨c, e, f⟩ | ⟨c, d, e, f⟩ <;> rcases h2 with ⟨c', e', f'⟩ | ⟨c', d', e', f'⟩
    · subst f; subst f'; exact ⟨rfl, rfl, fun _ => e.trans e'.symm⟩
    · exact absurd ⟨c', d'⟩ c
    · exact absurd ⟨c, d⟩ c'
    · subst f; subst f'; exact ⟨rfl, rfl, fun _ => e.trans e'.symm⟩
  · exact absurd ⟨k, hk, hm⟩ b'
  · exact absurd ⟨k', hk', hm'⟩ b
  · subst f; subst f'; exact ⟨rfl, rfl, fun q => absurd q (by decide)⟩
theorem fn_load {mm op ad of : Int32} (hn : nm ≤ 24) (h1 : AN_load nm mo om al bs mm op ad of r v S1) (h2 : AN_load nm mo om al bs mm op ad of r' v' S2) : r' = r ∧ S2 = S1 ∧ (r = 0 → v = v') := by
  rcases h1 with ⟨a, k, hk, hm, kd, hkd, ho, hi, e, f⟩ | ⟨a, b, f⟩ | ⟨a, ⟨k, hk, hm, kd, hkd, ho, hi⟩, f⟩ <;> rcases h2 with ⟨a', k', hk', hm', kd', hkd', ho', hi', e', f'⟩ | ⟨a', b', f'⟩ | ⟨a', ⟨k', hk', hm', kd', hkd', ho', hi'⟩, f'⟩ <;> subst a <;> subst a' <;> subst f <;> subst f'
  · have := k_un hn hk hk' hm hm'
    subst this
    have := nI_inj (by omega) (by omega) (ho.symm.trans ho')
    have : kd = kd' := by omega
    subst this
    exact ⟨rfl, rfl, fun _ => e.trans e'.symm⟩
  · exact absurd ⟨⟨k, hk, hm⟩, kd, hkd, ho⟩ b'
  · have := k_un hn hk hk' hm hm'
    subst this
    have := nI_inj (by omega) (by omega) (ho.symm.trans ho')
    have : kd = kd' := by omega
    subst this
    exact absurd hi hi'
  · exact absurd ⟨⟨k', hk', hm'⟩, kd', hkd', ho'⟩ b
  · exact ⟨rfl, rfl, fun q => absurd q (by decide)⟩
  · exact absurd ⟨⟨k', hk', hm'⟩, kd', hkd', ho'⟩ b
  · have := k_un hn hk hk' hm hm'
    subst this
    have := nI_inj (by omega) (by omega) (ho.symm.trans ho')
    have : kd = kd' := by omega
    subst this
    exact absurd hi' hi
  · exact absurd ⟨⟨k, hk, hm⟩, kd, hkd, ho⟩ b'
  · exact ⟨rfl, rfl, fun q => absurd q (by decide)⟩
theorem fn_store {mm op ad of : Int32} {vl : Int64} (hn : nm ≤ 24) (h1 : AN_store nm mo om al bs mm op ad of vl r v S1) (h2 : AN_store nm mo om al bs mm op ad of vl r' v' S2) : r' = r ∧ S2 = S1 := by
  rcases h1 with ⟨a, k, hk, hm, kd, hkd, ho, hi, f⟩ | ⟨a, b, f⟩ | ⟨a, ⟨k, hk, hm, kd, hkd, ho, hi⟩, f⟩ <;> rcases h2 with ⟨a', k', hk', hm', kd', hkd', ho', hi', f'⟩ | ⟨a', b', f'⟩ | ⟨a', ⟨k', hk', hm', kd', hkd', ho', hi'⟩, f'⟩ <;> subst a <;> subst a' <;> subst f <;> subst f'
  · have := k_un hn hk hk' hm hm'
    subst this
    have := nI_inj (by omega) (by omega) (ho.symm.trans ho')
    have : kd = kd' := by omega
    subst this
    exact ⟨rfl, rfl⟩
  · exact absurd ⟨⟨k, hk, hm⟩, kd, hkd, ho⟩ b'
  · have := k_un hn hk hk' hm hm'
    subst this
    have := nI_inj (by omega) (by omega) (ho.symm.trans ho')
    have : kd = kd' := by omega
    subst this
    exact absurd hi hi'
  · exact absurd ⟨⟨k', hk', hm'⟩, kd', hkd', ho'⟩ b
  · exact ⟨rfl, rfl⟩
  · exact absurd ⟨⟨k', hk', hm'⟩, kd', hkd', ho'⟩ b
  · have := k_un hn hk hk' hm hm'
    subst this
    have := nI_inj (by omega) (by omega) (ho.symm.trans ho')
    have : kd = kd' := by omega
    subst this
    exact absurd hi' hi
  · exact absurd ⟨⟨k, hk, hm⟩, kd, hkd, ho⟩ b'
  · exact ⟨rfl, rfl⟩
theorem pl_un {a b c d N : Nat} (hN : N ≤ 16) (h1 : a + c ≤ 65536 * N) (h2 : b + d ≤ 65536 * N) {x : Int32} (e1 : x = nI a) (e2 : x = nI b) : a = b := (nI_eq (by omega) (by omega)).mp (e1.symm.trans e2)
theorem fn_copy {mm fr m2 to9 cn : Int32} (hs : stOK nm mo om al bs) (h1 : AN_copy nm mo om al bs mm fr m2 to9 cn r v S1) (h2 : AN_copy nm mo om al bs mm fr m2 to9 cn r' v' S2) : r' = r ∧ S2 = S1 := by
  have hn := hs.1
  have hc : ∀ k, cnt om al k ≤ 16 := fun k => Nat.le_trans (cnt_le om k al) hs.2.1
  rcases h1 with ⟨a, k, hk, hm, k2, hk2, hm2, nb, hnb, ec, h1⟩ | ⟨a, b, f⟩ | ⟨a, ⟨k, hk, hm, k2, hk2, hm2, nb, hnb, ec, hp, hi⟩, f⟩ <;> rcases h2 with ⟨a', k', hk', hm', k2', hk2', hm2', nb', hnb', ec', h2⟩ | ⟨a', b', f'⟩ | ⟨a', ⟨k', hk', hm', k2', hk2', hm2', nb', hnb', ec', hp', hi'⟩, f'⟩ <;> subst a <;> subst a'
  · have := k_un hn hk hk' hm hm'
    subst this
    have := k_un hn hk2 hk2' hm2 hm2'
    subst this
    have := nI_inj (by omega) (by omega) (ec.symm.trans ec')
    subst this
    rcases h1 with ⟨c, f⟩ | ⟨c, P, eP, hP, P2, eP2, hP2, f⟩ <;> rcases h2 with ⟨c', f'⟩ | ⟨c', P', eP', hP', P2', eP2', hP2', f'⟩ <;> subst f <;> subst f'
    · exact ⟨rfl, rfl⟩
    · omega
    · omega
    · have := pl_un (hc k) hP hP' eP eP'
      subst this
      have := pl_un (hc k2) hP2 hP2' eP2 eP2'
      subst this
      exact ⟨rfl, rfl⟩
  · exact absurd ⟨⟨k, hk, hm⟩, ⟨k2, hk2, hm2⟩, cn_in (M := 4096) (by decide) hnb ec⟩ b'
  · have := k_un hn hk hk' hm hm'
    subst this
    have := k_un hn hk2 hk2' hm2 hm2'
    subst this
    have := nI_inj (by omega) (by omega) (ec.symm.trans ec')
    subst this
    rcases h1 with ⟨c, f⟩ | ⟨c, P, eP, hP, P2, eP2, hP2, f⟩
    · omega
    · exact absurd ⟨⟨P, eP, hP⟩, P2, eP2, hP2⟩ hi'
  · exact absurd ⟨⟨k', hk', hm'⟩, ⟨k2', hk2', hm2'⟩, cn_in (M := 4096) (by decide) hnb' ec'⟩ b
  · subst f; subst f'; exact ⟨rfl, rfl⟩
  · exact absurd ⟨⟨k', hk', hm'⟩, ⟨k2', hk2', hm2'⟩, cn_in (M := 4096) (by decide) hnb' ec'⟩ b
  · have := k_un hn hk hk' hm hm'
    subst this
    have := k_un hn hk2 hk2' hm2 hm2'
    subst this
    have := nI_inj (by omega) (by omega) (ec.symm.trans ec')
    subst this
    rcases h2 with ⟨c, f⟩ | ⟨c, P, eP, hP, P2, eP2, hP2, f⟩
    · omega
    · exact absurd ⟨⟨P, eP, hP⟩, P2, eP2, hP2⟩ hi
  · exact absurd ⟨⟨k, hk, hm⟩, ⟨k2, hk2, hm2⟩, cn_in (M := 4096) (by decide) hnb ec⟩ b'
  · subst f; subst f'; exact ⟨rfl, rfl⟩
theorem fn_sum {mm fr cn : Int32} (hs : stOK nm mo om al bs) (h1 : AN_sum nm mo om al bs mm fr cn r v S1) (h2 : AN_sum nm mo om al bs mm fr cn r' v' S2) : r' = r ∧ S2 = S1 ∧ (r = 0 → v = v') := by
  have hn := hs.1
  have hc : ∀ k, cnt om al k ≤ 16 := fun k => Nat.le_trans (cnt_le om k al) hs.2.1
  rcases h1 with ⟨a, k, hk, hm, nb, hnb, ec, ⟨r9, h1, e⟩, f⟩ | ⟨a, b, f⟩ | ⟨a, ⟨k, hk, hm, nb, hnb, ec, hp, hi⟩, f⟩ <;> rcases h2 with ⟨a', k', hk', hm', nb', hnb', ec', ⟨r9', h2, e'⟩, f'⟩ | ⟨a', b', f'⟩ | ⟨a', ⟨k', hk', hm', nb', hnb', ec', hp', hi'⟩, f'⟩ <;> subst a <;> subst a' <;> subst f <;> subst f'
  · have := k_un hn hk hk' hm hm'
    subst this
    have := nI_inj (by omega) (by omega) (ec.symm.trans ec')
    subst this
    refine ⟨rfl, rfl, fun _ => ?_⟩
    rcases h1 with ⟨c, f⟩ | ⟨c, P, eP, hP, f⟩ <;> rcases h2 with ⟨c', f'⟩ | ⟨c', P', eP', hP', f'⟩
    · rw [e, e', f, f']
    · omega
    · omega
    · have := pl_un (hc k) hP hP' eP eP'
      subst this
      rw [e, e', f, f']
  · exact absurd ⟨⟨k, hk, hm⟩, cn_in (M := 65536) (by decide) hnb ec⟩ b'
  · have := k_un hn hk hk' hm hm'
    subst this
    have := nI_inj (by omega) (by omega) (ec.symm.trans ec')
    subst this
    rcases h1 with ⟨c, f⟩ | ⟨c, P, eP, hP, f⟩
    · omega
    · exact absurd ⟨P, eP, hP⟩ hi'
  · exact absurd ⟨⟨k', hk', hm'⟩, cn_in (M := 65536) (by decide) hnb' ec'⟩ b
  · exact ⟨rfl, rfl, fun q => absurd q (by decide)⟩
  · exact absurd ⟨⟨k', hk', hm'⟩, cn_in (M := 65536) (by decide) hnb' ec'⟩ b
  · have := k_un hn hk hk' hm hm'
    subst this
    have := nI_inj (by omega) (by omega) (ec.symm.trans ec')
    subst this
    rcases h2 with ⟨c, f⟩ | ⟨c, P, eP, hP, f⟩
    · omega
    · exact absurd ⟨P, eP, hP⟩ hi
  · exact absurd ⟨⟨k, hk, hm⟩, cn_in (M := 65536) (by decide) hnb ec⟩ b'
  · exact ⟨rfl, rfl, fun q => absurd q (by decide)⟩
/-! the state stays in order -/
theorem ok_make {least most : Int32} (hs : stOK nm mo om al bs) (h : AN_make nm mo om al bs least most r v S1) : okS S1 := by
  rcases h with ⟨-, hok, hlt, hal, -, f⟩ | ⟨-, -, f⟩ | ⟨-, -, -, f⟩ | ⟨-, -, -, -, f⟩ <;> subst f <;> first | exact hs | skip
  obtain ⟨h1, h2, h3, h4, h5, h6⟩ := hs
  have hz : cnt om al nm = 0 := cnt_zero al (fun k hk => by have := h3 k hk; omega)
  refine ⟨hlt, hal, ?_, ?_, ?_, h6⟩
  · intro k hk
    show appN om al nm k < nm + 1
    unfold appN
    by_cases q : k < al
    · rw [if_pos q]; have := h3 k q; omega
    · rw [if_neg q]; omega
  · intro k hk
    show va_up mo nm most k = -1 ∨ ∃ q, q ≤ 65536 ∧ va_up mo nm most k = nI q ∧ cnt (appN om al nm) (al + uI least) k ≤ q
    rw [cnt_app]
    by_cases q : k = nm
    · subst q
      rw [va_up_self, if_pos rfl, hz, Nat.zero_add]
      obtain ⟨⟨a1, a2⟩, a3⟩ := hok
      obtain ⟨p, hp, rfl⟩ : ∃ j, j ≤ 65536 ∧ least = nI j := nI_of2 (M := 65536) (n := 65536) (by decide) a1 a2
      rw [uI_nI (by omega)]
      rcases a3 with a3 | ⟨a3, a4⟩
      · exact Or.inl a3
      · have hm0 : ¬ most < 0 := fun q => a3 (Int32.lt_of_lt_of_le q (Int32.not_lt.mp a1))
        obtain ⟨t, ht, rfl⟩ : ∃ j, j ≤ 65536 ∧ most = nI j := nI_of2 (M := 65536) (n := 65536) (by decide) hm0 a4
        refine Or.inr ⟨t, ht, rfl, ?_⟩
        rcases Nat.lt_or_ge t p with z | z
        · exact absurd (nI_lt z (by omega)) a3
        · exact z
    · rw [va_up_ne _ _ q, if_neg q, Nat.add_zero]
      have hk : k < nm + 1 := hk
      exact h4 k (by omega)
  · intro k j hj
    have hj : 65536 * cnt (appN om al nm) (al + uI least) k ≤ j := hj
    rw [cnt_app] at hj
    exact h5 k j (by omega)
theorem ok_pages {mm : Int32} (hs : stOK nm mo om al bs) (h : AN_pages nm mo om al bs mm r v S1) : okS S1 := by
  rcases h with ⟨-, k, -, -, -, f⟩ | ⟨-, -, f⟩ <;> subst f <;> exact hs
theorem ok_fits {mm least most : Int32} (hs : stOK nm mo om al bs) (h : AN_fits nm mo om al bs mm least most r v S1) : okS S1 := by
  rcases h with ⟨-, k, -, -, -, f⟩ | ⟨-, -, f⟩ <;> subst f <;> exact hs
theorem ok_grow {mm gn : Int32} (hs : stOK nm mo om al bs) (h : AN_grow nm mo om al bs mm gn r v S1) : okS S1 := by
  rcases h with ⟨-, k, hk, -, lim, hl, ⟨-, -, f⟩ | ⟨hc, hal, -, f⟩⟩ | ⟨-, -, f⟩ <;> subst f <;> first | exact hs | skip
  obtain ⟨h1, h2, h3, h4, h5, h6⟩ := hs
  refine ⟨h1, hal, ?_, ?_, ?_, h6⟩
  · intro k2 hk2
    show appN om al k k2 < nm
    unfold appN
    by_cases q : k2 < al
    · rw [if_pos q]; exact h3 k2 q
    · rw [if_neg q]; exact hk
  · intro k2 hk2
    show mo k2 = -1 ∨ ∃ q, q ≤ 65536 ∧ mo k2 = nI q ∧ cnt (appN om al k) (al + uI gn) k2 ≤ q
    rw [cnt_app]
    by_cases q : k2 = k
    · subst q
      rw [if_pos rfl]
      rcases hl with ⟨a, -⟩ | ⟨a, b⟩
      · exact Or.inl a
      · exact Or.inr ⟨lim, a, b, hc⟩
    · rw [if_neg q, Nat.add_zero]
      exact h4 k2 hk2
  · intro k2 j hj
    have hj : 65536 * cnt (appN om al k) (al + uI gn) k2 ≤ j := hj
    rw [cnt_app] at hj
    exact h5 k2 j (by omega)
theorem ok_load {mm op ad of : Int32} (hs : stOK nm mo om al bs) (h : AN_load nm mo om al bs mm op ad of r v S1) : okS S1 := by
  rcases h with ⟨-, k, -, -, kd, -, -, -, -, f⟩ | ⟨-, -, f⟩ | ⟨-, -, f⟩ <;> subst f <;> exact hs
theorem ok_store {mm op ad of : Int32} {vl : Int64} (hs : stOK nm mo om al bs) (h : AN_store nm mo om al bs mm op ad of vl r v S1) : okS S1 := by
  rcases h with ⟨-, k, -, -, kd, -, -, hi, f⟩ | ⟨-, -, f⟩ | ⟨-, -, f⟩ <;> subst f <;> first | exact hs | skip
  obtain ⟨q1, q2⟩ := putN_ok (V := uL vl) (hs.2.2.2.2.1 k) (hs.2.2.2.2.2 k) (szS kd) hi
  exact stOK_mem hs q1 q2
theorem ok_copy {mm fr m2 to9 cn : Int32} (hs : stOK nm mo om al bs) (h : AN_copy nm mo om al bs mm fr m2 to9 cn r v S1) : okS S1 := by
  rcases h with ⟨-, k, -, -, k2, -, -, nb, -, -, ⟨-, f⟩ | ⟨-, P, -, -, P2, -, hi, f⟩⟩ | ⟨-, -, f⟩ | ⟨-, -, f⟩ <;> subst f <;> first | exact hs | skip
  obtain ⟨q1, q2⟩ := cpN_ok (hs.2.2.2.2.1 k2) (hs.2.2.2.2.2 k2) (fun j => hs.2.2.2.2.2 k (P + j)) nb hi
  exact stOK_mem hs q1 q2
theorem ok_sum {mm fr cn : Int32} (hs : stOK nm mo om al bs) (h : AN_sum nm mo om al bs mm fr cn r v S1) : okS S1 := by
  rcases h with ⟨-, k, -, -, nb, -, -, -, f⟩ | ⟨-, -, f⟩ | ⟨-, -, f⟩ <;> subst f <;> exact hs
end FN
