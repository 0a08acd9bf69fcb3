/-! signs: what the class does by shifts, the reference by a difference (pf_lI, pf_shr, lN_bv, lN_nat, lN_ti out of kit/laws/BITS.to-paste) -/
theorem pf_lI {a : Nat} (h : a < 2 ^ 63) : (lN a).toInt = (a : Int) := lg_ofNat_toInt h
theorem pf_shr {a d : Nat} {D : Int64} (hD : (D.toBitVec.smod 64).toNat = d) (h : a < 2 ^ 62) : lN a >>> D = lN (a / 2 ^ d) := by
  have hd : a / 2 ^ d ≤ a := Nat.div_le_self _ _
  apply Int64.toInt_inj.mp
  have e : (lN a >>> D).toInt = (lN a).toInt >>> d := by
    rw [← hD]
    exact BitVec.toInt_sshiftRight ..
  rw [e, Int.shiftRight_eq_div_pow, pf_lI (by omega), pf_lI (by omega)]
  rfl
theorem lN_bv (n : Nat) : (lN n).toBitVec = BitVec.ofNat 64 n := rfl
theorem lN_nat {n : Nat} (h : n < 2 ^ 64) : (lN n).toBitVec.toNat = n := by rw [lN_bv, BitVec.toNat_ofNat]; exact Nat.mod_eq_of_lt h
theorem lN_ti {m : Nat} (h : m < 2 ^ 64) : (lN m).toInt = if m < 2 ^ 63 then (m : Int) else (m : Int) - 2 ^ 64 := by
  have c := BitVec.toInt_eq_toNat_cond (lN m).toBitVec
  rw [lN_nat h] at c
  show (lN m).toBitVec.toInt = _
  rw [c]
  split <;> split <;> omega
theorem lN_sub_ti {V w : Nat} (hV : V < 2 ^ 40) (hw : w < 2 ^ 40) : (lN V - lN w).toInt = (V : Int) - w := by
  rw [Int64.toInt_sub, pf_lI (by omega), pf_lI (by omega)]
  exact Int.bmod_eq_of_le (by omega) (by omega)
theorem sg_1 {V : Nat} (hV : V < 256) : sgnV (lN V) 1 = if V < 128 then lN V else lN V - lN 256 := by
  show (lN V <<< ((nI 56).toInt64 &&& 63)) >>> ((nI 56).toInt64 &&& 63) = _
  rw [wb_shl _ (by decide)]
  apply Int64.toInt_inj.mp
  have e : (lN (V * 2 ^ 56) >>> ((nI 56).toInt64 &&& 63)).toInt = (lN (V * 2 ^ 56)).toInt >>> 56 := BitVec.toInt_sshiftRight ..
  rw [e, Int.shiftRight_eq_div_pow, lN_ti (by omega)]
  by_cases h : V < 128
  · rw [if_pos h, if_pos (by omega), pf_lI (by omega)]; omega
  · rw [if_neg h, if_neg (by omega), lN_sub_ti (by omega) (by decide)]; omega
theorem sg_2 {V : Nat} (hV : V < 65536) : sgnV (lN V) 2 = if V < 32768 then lN V else lN V - lN 65536 := by
  show (lN V <<< ((nI 48).toInt64 &&& 63)) >>> ((nI 48).toInt64 &&& 63) = _
  rw [wb_shl _ (by decide)]
  apply Int64.toInt_inj.mp
  have e : (lN (V * 2 ^ 48) >>> ((nI 48).toInt64 &&& 63)).toInt = (lN (V * 2 ^ 48)).toInt >>> 48 := BitVec.toInt_sshiftRight ..
  rw [e, Int.shiftRight_eq_div_pow, lN_ti (by omega)]
  by_cases h : V < 32768
  · rw [if_pos h, if_pos (by omega), pf_lI (by omega)]; omega
  · rw [if_neg h, if_neg (by omega), lN_sub_ti (by omega) (by decide)]; omega
theorem sg_4 {V : Nat} (hV : V < 4294967296) : sgnV (lN V) 4 = if V < 2147483648 then lN V else lN V - lN 4294967296 := by
  show (lN V <<< ((nI 32).toInt64 &&& 63)) >>> ((nI 32).toInt64 &&& 63) = _
  rw [wb_shl _ (by decide)]
  apply Int64.toInt_inj.mp
  have e : (lN (V * 2 ^ 32) >>> ((nI 32).toInt64 &&& 63)).toInt = (lN (V * 2 ^ 32)).toInt >>> 32 := BitVec.toInt_sshiftRight ..
  rw [e, Int.shiftRight_eq_div_pow, lN_ti (by omega)]
  by_cases h : V < 2147483648
  · rw [if_pos h, if_pos (by omega), pf_lI (by omega)]; omega
  · rw [if_neg h, if_neg (by omega), lN_sub_ti (by omega) (by decide)]; omega
/-- the kinds with a sign, and how many bytes they have -/
theorem kd_sg : ∀ kd, kd < 14 → (tLS kd = 1 ↔ (4 ≤ kd ∧ (40 + kd) % 2 = 0)) ∧ (tLS kd = 1 → szL kd = 1 ∨ szL kd = 2 ∨ szL kd = 4) ∧ (tLT kd = 4 ↔ (kd ≠ 1 ∧ kd ≠ 3 ∧ kd < 8)) := by decide +kernel
/-- the highest bit of nb bytes, as the reference asks for it -/
theorem top_bit {V nb : Nat} (hnb : nb = 1 ∨ nb = 2 ∨ nb = 4) (hV : V < 2 ^ (8 * nb)) : (lN V >>> ((8 * nI nb - 1).toInt64 &&& 63)) &&& 1 = if V < 2 ^ (8 * nb - 1) then lN 0 else lN 1 := by
  rcases hnb with rfl | rfl | rfl
  · rw [pf_shr (d := 7) (by decide) (by omega), wb_a1 (by omega)]
    by_cases h : V < 2 ^ 7
    · rw [if_pos h]; congr 1; omega
    · rw [if_neg h]; congr 1; omega
  · rw [pf_shr (d := 15) (by decide) (by omega), wb_a1 (by omega)]
    by_cases h : V < 2 ^ 15
    · rw [if_pos h]; congr 1; omega
    · rw [if_neg h]; congr 1; omega
  · rw [pf_shr (d := 31) (by decide) (by omega), wb_a1 (by omega)]
    by_cases h : V < 2 ^ 31
    · rw [if_pos h]; congr 1; omega
    · rw [if_neg h]; congr 1; omega
theorem sg_all {V nb : Nat} (hnb : nb = 1 ∨ nb = 2 ∨ nb = 4) (hV : V < 2 ^ (8 * nb)) : sgnV (lN V) nb = if V < 2 ^ (8 * nb - 1) then lN V else lN V - ((1 : Int64) <<< ((8 * nI nb).toInt64 &&& 63)) := by
  rcases hnb with rfl | rfl | rfl
  · rw [sg_1 hV]; rfl
  · rw [sg_2 hV]; rfl
  · rw [sg_4 hV]; rfl
theorem thereP_fr {fr : Int32} {nb c : Nat} (hnb : nb ≤ 65536) (hc : c ≤ 16) : thereP fr.toInt64 nb c ↔ (nb = 0 ∨ ∃ P, fr = nI P ∧ P + nb ≤ 65536 * c) := by
  constructor
  · rintro (h | ⟨h1, h2⟩)
    · exact Or.inl h
    · obtain ⟨P, hP, rfl⟩ := i64_pos h1
      rw [nI_toI64 P hP, lN_add, pk_lLE (by omega) (by omega)] at h2
      exact Or.inr ⟨P, rfl, h2⟩
  · rintro (h | ⟨P, rfl, h⟩)
    · exact Or.inl h
    · rw [nI_toI64 P (by omega)]
      exact Or.inr ⟨lN_nlt0 (by omega), by rw [lN_add, pk_lLE (by omega) (by omega)]; exact h⟩
theorem thereP_pl {p nb c : Nat} (hnb : 0 < nb ∧ nb ≤ 65536) (hc : c ≤ 16) (hp : p < 2 ^ 40) : thereP (lN p) nb c ↔ p + nb ≤ 65536 * c := by
  constructor
  · rintro (h | ⟨-, h2⟩)
    · omega
    · rw [lN_add, pk_lLE (by omega) (by omega)] at h2; exact h2
  · intro h
    exact Or.inr ⟨lN_nlt0 (by omega), by rw [lN_add, pk_lLE (by omega) (by omega)]; exact h⟩
/-- the byte i of a long, as the reference cuts it out -/
theorem byte_s (x : Int64) {i : Nat} (hi : i < 8) : ((x >>> ((8 * nI i).toInt64 &&& 63)) &&& 255).toInt32 = nI (uL x / 2 ^ (8 * i) % 256) := by
  have e8 : (8 : Int32) * nI i = nI (8 * i) := pk_mul 8 i
  have key : (x >>> ((8 * nI i).toInt64 &&& 63)) &&& 255 = lN (uL x / 2 ^ (8 * i) % 256) := by
    rw [e8, wb_c _ (by omega)]
    apply Int64.toBitVec_inj.mp
    rw [Int64.toBitVec_and]
    show (x.toBitVec.sshiftRight ((lN (8 * i)).toBitVec.smod 64).toNat) &&& 255#64 = BitVec.ofNat 64 (x.toBitVec.toNat / 2 ^ (8 * i) % 256)
    have hs : ((lN (8 * i)).toBitVec.smod 64).toNat = 8 * i := by
      rw [lN_bv, wb_sm _ (by omega), BitVec.toNat_ofNat]
      omega
    rw [hs]
    apply BitVec.eq_of_getLsbD_eq
    intro j hj
    have h255 : (255#64).getLsbD j = decide (j < 8) := (by decide +kernel : ∀ j, j < 64 → (255#64).getLsbD j = decide (j < 8)) j hj
    rw [BitVec.getLsbD_and, h255, BitVec.getLsbD_sshiftRight, BitVec.getLsbD_ofNat, show (256 : Nat) = 2 ^ 8 from rfl, Nat.testBit_mod_two_pow, Nat.testBit_div_two_pow]
    by_cases q : j < 8
    · simp [q, hj, BitVec.getLsbD, show 8 * i + j < 64 by omega, Nat.add_comm, show ¬ 64 ≤ j by omega]
      intro h
      omega
    · simp [q]
  rw [key, lN_i]
