/-! Math.max, Math.min, System.arraycopy in a context -/
theorem k_mx : Cond.code Lib.Math.max.name Lib.Math.max.code 2 (some .int) ∈ GG := gg_of (by decide +kernel) (by decide +kernel)
theorem k_mn : Cond.code Lib.Math.min.name Lib.Math.min.code 2 (some .int) ∈ GG := gg_of (by decide +kernel) (by decide +kernel)
theorem k_mxs : Cond.static Lib.Math.max.name ∈ GG := gg_of (by decide +kernel) (by decide +kernel)
theorem k_mns : Cond.static Lib.Math.min.name ∈ GG := gg_of (by decide +kernel) (by decide +kernel)
theorem k_acn : Cond.native arraycopyName ∈ GG := gg_of (by decide +kernel) (by decide +kernel)
theorem k_acs : Cond.static arraycopyName ∈ GG := gg_of (by decide +kernel) (by decide +kernel)
section KL
variable {D : va_G} {kc : Nat → ClassId} {L : List Nat} {f : Nat → va_E}
variable {p : Program} {l : Launch} {e : Env} {R : Room} {s : State} {m : MethodId} {args : Array Value} {below : List Frame} {meth : Method} {c : Code} {H : Heap} {locs : List Loc} {cells slots : Nat} {Q : State → Prop} {A : Nat → Prop}
variable {cc : ByteArray} {nL : Nat} {c0 : Cond} {own : String} {ret : Option FieldType} {pc index : Nat} {ls : Array Slot} {rest : List Value}
theorem kmax (hC : Kx p m c cc nL s args c0 own meth ret D kc A) (hsz : ls.size = nL) (hml : Cond.methodLink own index Lib.Math.max.name ∈ GG) {a b : Nat} (ha : a < 2 ^ 31) (hb : b < 2 ^ 31) (hR : 1 ≤ R.frames ∧ (rest.map fun v => v.category).sum + 13 ≤ R.locals) (hcs : cells ≤ R.cells ∧ slots ≤ R.slots) (hdg : decode cc pc = .ok (.invokestatic index, 3))
    (kk : W p l e R s m args below meth c H locs cells slots Q (F0 m (pc + 3) ls (.int (nI (max a b)) :: rest))) : W p l e R s m args below meth c H locs cells slots Q (F0 m pc ls (.int (nI b) :: .int (nI a) :: rest)) := by
  have hts := hC.1.1.2.2.2.2
  refine va_mmax hC.1.1.1 hC.1.1.2.1 (hC.1.1.2.2.1.trans hsz.symm) hC.1.1.2.2.2.1 (hts _ (gg_mem hml)) (hts _ (gg_mem k_mxs)) (hts _ (gg_mem k_in_JMath)) (hts _ (gg_mem k_mx)) hR.1 hR.2 hcs.1 hcs.2 hdg ?_
  have e1 : (if nI a < nI b then nI b else nI a) = nI (max a b) := by
    by_cases h : a < b
    · rw [if_pos ((nI_ltI ha hb).mpr h), Nat.max_eq_right (Nat.le_of_lt h)]
    · rw [if_neg (fun q => h ((nI_ltI ha hb).mp q)), Nat.max_eq_left (Nat.le_of_not_lt h)]
  rw [e1]
  exact kk
theorem kmin (hC : Kx p m c cc nL s args c0 own meth ret D kc A) (hsz : ls.size = nL) (hml : Cond.methodLink own index Lib.Math.min.name ∈ GG) {a b : Nat} (ha : a < 2 ^ 31) (hb : b < 2 ^ 31) (hR : 1 ≤ R.frames ∧ (rest.map fun v => v.category).sum + 13 ≤ R.locals) (hcs : cells ≤ R.cells ∧ slots ≤ R.slots) (hdg : decode cc pc = .ok (.invokestatic index, 3))
    (kk : W p l e R s m args below meth c H locs cells slots Q (F0 m (pc + 3) ls (.int (nI (min a b)) :: rest))) : W p l e R s m args below meth c H locs cells slots Q (F0 m pc ls (.int (nI b) :: .int (nI a) :: rest)) := by
  have hts := hC.1.1.2.2.2.2
  refine va_mmin hC.1.1.1 hC.1.1.2.1 (hC.1.1.2.2.1.trans hsz.symm) hC.1.1.2.2.2.1 (hts _ (gg_mem hml)) (hts _ (gg_mem k_mns)) (hts _ (gg_mem k_in_JMath)) (hts _ (gg_mem k_mn)) hR.1 hR.2 hcs.1 hcs.2 hdg ?_
  have e1 : (if nI b < nI a then nI b else nI a) = nI (min a b) := by
    by_cases h : b < a
    · rw [if_pos ((nI_ltI hb ha).mpr h), Nat.min_eq_right (Nat.le_of_lt h)]
    · rw [if_neg (fun q => h ((nI_ltI hb ha).mp q)), Nat.min_eq_left (Nat.le_of_not_lt h)]
  rw [e1]
  exact kk
theorem kcopy (hC : Kx p m c cc nL s args c0 own meth ret D kc A) (hw : pw D Cls A s.heap H locs L f) (hsz : ls.size = nL) (hml : Cond.methodLink own index arraycopyName ∈ GG) {a0 a n0 n1 : Nat} {h0 h1 : Nat → Int32} (ha0 : a0 ∈ L) (he0 : f a0 = .inl (kc 0, n0, .inl h0)) (ha : a ∈ L) (he1 : f a = .inl (kc 0, n1, .inl h1)) (hn0 : n0 < 2 ^ 31) (hn1 : n1 < 2 ^ 31) {sp dp n : Nat} (h4 : sp + n ≤ n0) (h5 : dp + n ≤ n1) (hfit : ∀ i, i < n → fits .byte (.int (h0 (sp + i))) = true) (hR : 1 ≤ R.frames ∧ (rest.map fun v => v.category).sum + 18 ≤ R.locals) (hdg : decode cc pc = .ok (.invokestatic index, 3))
    (kk : ∀ (H1 : Heap) (locs1 : List Loc), pw D Cls A s.heap H1 locs1 L (va_up f a (.inl (kc 0, n1, .inl (va_cpy h0 h1 sp dp n)))) → W p l e R s m args below meth c H1 locs1 cells slots Q (F0 m (pc + 3) ls rest)) : W p l e R s m args below meth c H locs cells slots Q (F0 m pc ls (.int (nI n) :: .int (nI dp) :: .ref a :: .int (nI sp) :: .ref a0 :: rest)) := by
  have hts := hC.1.1.2.2.2.2
  obtain ⟨q0, g0⟩ := pg_at ha0 he0
  obtain ⟨q1, g1⟩ := pg_at ha he1
  have c1 : (nI sp).toNatClampNeg = sp := nI_clamp (by omega)
  have c2 : (nI dp).toNatClampNeg = dp := nI_clamp (by omega)
  have c3 : (nI n).toNatClampNeg = n := nI_clamp (by omega)
  refine va_copyi (ty := .byte) hC.1.1.1 hC.1.1.2.1 (hC.1.1.2.2.1.trans hsz.symm) hC.1.1.2.2.2.1 (hts _ (gg_mem hml)) (hts _ (gg_mem k_acn)) (hts _ (gg_mem k_acs)) (hts _ (gg_mem k_in_JSystem)) hC.2.1 hw.1 hw.2.1 hw.2.2 q0 q1 0 0 g0 g1 rfl rfl rfl (nI_pos (by omega)) (nI_pos (by omega)) (nI_pos (by omega)) (by rw [c1, c3]; exact h4) (by rw [c2, c3]; exact h5) (by rw [c1, c3]; exact hfit) hR.1 hR.2 hdg (fun H1 locs1 p1 p2 p3 => kk H1 locs1 ⟨?_, ?_, p3⟩)
  · rw [c1, c2, c3, pg_set hw.2.1 ha he1 g1] at p1; exact p1
  · rw [c1, c2, c3, pg_set hw.2.1 ha he1 g1] at p2; exact p2
end KL
theorem Ext_up {S : Nat → Prop} {L : List Nat} {f : Nat → va_E} {tg : Nat → Nat × Nat} {a : Nat} {e : va_E} (h : S (tg a).1) : Ext S L f tg (L, va_up f a e) tg := ⟨fun _ h => h, fun _ _ => rfl, fun b _ hb => va_up_ne _ _ (fun q => hb (by rw [q]; exact h)), fun _ h h2 => absurd h h2⟩
/-! sums: each byte times its weight, which falls by one -/
def wsum (bs : Nat → Nat) (P : Nat) (w : Int32) : Nat → Int32
  | 0 => 0
  | i + 1 => wsum bs P w i + nI (bs (P + i)) * (w - nI i)
theorem wsum_split (bs : Nat → Nat) (P : Nat) (w : Int32) (d : Nat) : ∀ n, wsum bs P w (d + n) = wsum bs P w d + wsum bs (P + d) (w - nI d) n
  | 0 => by simp [wsum]
  | n + 1 => by
    show wsum bs P w (d + n) + nI (bs (P + (d + n))) * (w - nI (d + n)) = wsum bs P w d + (wsum bs (P + d) (w - nI d) n + nI (bs (P + d + n)) * (w - nI d - nI n))
    rw [wsum_split bs P w d n, ← nI_add, Nat.add_assoc P d n, Int32.add_assoc]
    congr 2
    rw [Int32.sub_eq_add_neg, Int32.sub_eq_add_neg, Int32.sub_eq_add_neg, Int32.neg_add, Int32.add_assoc]
    rw [Int32.sub_eq_add_neg]
theorem wsum_zero {bs : Nat → Nat} {P : Nat} (w : Int32) : ∀ n, (∀ i, i < n → bs (P + i) = 0) → wsum bs P w n = 0
  | 0, _ => rfl
  | n + 1, h => by
    show wsum bs P w n + nI (bs (P + n)) * (w - nI n) = 0
    rw [wsum_zero w n (fun i hi => h i (by omega)), h n (by omega)]
    show 0 + (0 : Int32) * (w - nI n) = 0
    rw [Int32.zero_mul]; rfl
theorem wsum_congr {bs bs' : Nat → Nat} {P : Nat} (w : Int32) : ∀ n, (∀ i, i < n → bs (P + i) = bs' (P + i)) → wsum bs P w n = wsum bs' P w n
  | 0, _ => rfl
  | n + 1, h => by
    show wsum bs P w n + nI (bs (P + n)) * (w - nI n) = wsum bs' P w n + nI (bs' (P + n)) * (w - nI n)
    rw [wsum_congr w n (fun i hi => h i (by omega)), h n (by omega)]
