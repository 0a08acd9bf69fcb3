/-! 'throw new E("..")' in PagedBytes -/
def exN : List String := ["java/lang/RuntimeException", "java/lang/Exception"]
def thr : List (String × Nat) := [(eIAE, 31), (eISE, 40), (eUOE, 45), (eIOB, 136)]
theorem thr_g : ∀ q ∈ thr, ∀ w ∈ (vx_atS R_P q.2 q.1 exN).filter goodWord, w ∈ lw_tbl := by decide +kernel
theorem thr_b : ∀ q ∈ thr, ∀ w ∈ (vx_atS R_P q.2 q.1 exN).filter (fun w => !goodWord w), w ∈ lw_tbl := by decide +kernel
theorem thr_d : ∀ q ∈ thr, ∀ w ∈ (vx_atS R_P q.2 q.1 exN).filter (fun w => !goodWord w), isDC w = true := by decide +kernel
theorem thr_o : ∀ q ∈ thr, ∀ w ∈ vx_atS R_P q.2 q.1 exN, vx_ot w = true := by decide +kernel
theorem thr_f : ∀ q ∈ thr, Bundle.fit q.1 = true := by decide +kernel
theorem exN_f : ∀ n ∈ exN, Bundle.fit n = true := by decide +kernel
section TH
variable {D : va_G} {kc : Nat → ClassId} {L : List Nat} {f : Nat → va_E}
variable {p : Program} {l : Launch} {e : Env} {R : Room} {s : State} {m : MethodId} {args : Array Value} {below : List Frame} {meth : Method} {c : Code} {H : Heap} {locs : List Loc} {cells slots : Nat} {A : Nat → Prop}
variable {cc : ByteArray} {nL : Nat} {c0 : Cond} {ret : Option FieldType} {pc : Nat} {ls : Array Slot} {rest : List Value}
theorem throwS {ok : String → pU → Prop} {Qc : Array Value → State → Outcome → State → Prop} {mc ms : Nat} (hC : Kx p m c cc nL s args c0 R_P meth ret D kc A) (hw : pw D Cls A s.heap H locs L f) (hl : l.stackTraces = false) (hex : ∀ x ∈ c.exceptionTable.toList, False) {cls : String} {ic ik is : Nat} (hq : (cls, ic) ∈ thr) (hk : Cond.classLink R_P ik cls ∈ GG) (hi : Cond.initialized cls ∈ GG) {text : String} (hstr : (is, text) ∈ STRs) (hsz : ls.size = nL)
    (d0 : decode cc pc = .ok (.new ik, 3)) (d3 : decode cc (pc + 3) = .ok (.dup, 1)) (d4 : decode cc (pc + 4) = .ok (.ldc is, 2)) (d6 : decode cc (pc + 6) = .ok (.invokespecial ic, 3)) (d9 : decode cc (pc + 9) = .ok (.athrow, 1))
    (hR : 5 < R.frames ∧ (rest.map fun v => v.category).sum + 82 ≤ R.locals ∧ cells + 1 ≤ R.cells ∧ slots + 6 ≤ R.slots) (hc : cells + 1 ≤ mc) (hs : slots + 6 ≤ ms) (ho : ok cls (L, f)) :
    W p l e R s m args below meth c H locs cells slots (vx_MQ below Qc (pXC D Cls A ok) args s mc ms A) (F0 m pc ls rest) := by
  obtain ⟨⟨⟨hx, hb, hml, hown, hts⟩, hr, hlocks⟩, hK, ⟨⟨hU, hN⟩, hDC, -, -, -, -, hST, -⟩, hA⟩ := hC
  obtain ⟨sa, hsa⟩ := hST _ hstr
  refine vx_throwS (names := exN) (sa := sa) (A := A) hx hb hl hown (thr_f _ hq) exN_f (hts _ (gg_mem hk)) (hts _ (gg_mem hi)) hsa ?_ ?_ hU hN hw.2.2 (hsz.trans hml.symm) d0 d3 d4 d6 d9 (fun x h => (hex x h).elim) (by show 2 + 3 < R.frames; exact hR.1) (by show _ + (13 * (2 + 1) + 43) ≤ R.locals; exact hR.2.1) hR.2.2.1 hR.2.2.2 hlocks ?_ hw.2.2.2.2 hc hs
  · intro w hw9
    cases hg : goodWord w with
    | true => exact hts _ (gg_mem (gg_of (thr_g _ hq w (List.mem_filter.mpr ⟨hw9, hg⟩)) hg))
    | false =>
      have hm : w ∈ (vx_atS R_P ic cls exN).filter (fun w => !goodWord w) := List.mem_filter.mpr ⟨hw9, by rw [hg]; rfl⟩
      have hd := thr_d _ hq w hm
      exact va_Nw.use (dc_onTables hd) (hDC w (List.mem_filter.mpr ⟨thr_b _ hq w hm, hd⟩))
  · intro w hw9
    rcases List.mem_cons.mp hw9 with rfl | h9
    · rfl
    · rcases List.mem_cons.mp h9 with rfl | h9
      · rfl
      · exact thr_o _ hq w h9
  · intro t _ hz hk9
    obtain ⟨h1, h2⟩ := pg_grown hw hz hk9
    exact ⟨(L, f), trivial, ⟨ho, h1⟩, h2⟩
end TH
