/-! ===== the reference's sheets ===== -/
def q_b14 (ss : Nat → SS) : Nat → Int32 := fun k => (ss k).1
def q_b15 (ss : Nat → SS) : Nat → Int32 := fun k => nI (ss k).2.1
def q_b16 (ss : Nat → SS) : Nat → Int64 := fun x => (ss (x / 40)).2.2 (x % 40)
theorem q_b16_at (ss : Nat → SS) {k i : Nat} (hi : i < 40) : q_b16 ss (40 * k + i) = (ss k).2.2 i := by
  unfold q_b16
  rw [show (40 * k + i) / 40 = k by omega, show (40 * k + i) % 40 = i by omega]
theorem q_b14_U (ss : Nat → SS) (k : Nat) (S : SS) : q_b14 (q_ssU ss k S) = upd (q_b14 ss) k S.1 := by
  funext j
  unfold q_b14 q_ssU upd
  by_cases h : j = k
  · rw [if_pos h, if_pos h]
  · rw [if_neg h, if_neg h]
theorem q_b15_U (ss : Nat → SS) (k : Nat) (S : SS) : q_b15 (q_ssU ss k S) = upd (q_b15 ss) k (nI S.2.1) := by
  funext j
  unfold q_b15 q_ssU upd
  by_cases h : j = k
  · rw [if_pos h, if_pos h]
  · rw [if_neg h, if_neg h]
theorem q_b14_s (ss : Nat → SS) (k : Nat) (F : Nat → Int64) : q_b14 (q_ssU ss k ((ss k).1, (ss k).2.1, F)) = q_b14 ss := by
  rw [q_b14_U]
  exact upd_id rfl
theorem q_b15_s (ss : Nat → SS) (k : Nat) (F : Nat → Int64) : q_b15 (q_ssU ss k ((ss k).1, (ss k).2.1, F)) = q_b15 ss := by
  rw [q_b15_U]
  exact upd_id rfl
theorem q_b16_w (ss : Nat → SS) (k : Nat) (b : Int32) (n : Nat) (F : Nat → Int64) {m : Nat} (hm : m < 40) (v : Int64) : vp_updL (q_b16 (q_ssU ss k (b, n, F))) (40 * k + m) v = q_b16 (q_ssU ss k (b, n, vp_updL F m v)) := by
  funext x
  unfold vp_updL q_b16 q_ssU
  by_cases h : x = 40 * k + m
  · rw [if_pos h, if_pos (by omega)]
    show v = if x % 40 = m then v else F (x % 40)
    rw [if_pos (by omega)]
  · rw [if_neg h]
    by_cases h2 : x / 40 = k
    · rw [if_pos h2, if_pos h2]
      show F (x % 40) = if x % 40 = m then v else F (x % 40)
      rw [if_neg (by omega)]
    · rw [if_neg h2, if_neg h2]
/-- the first j numbers of sheet k are 0 -/
def q_zr (F : Nat → Int64) (k j : Nat) : Nat → Int64 := fun x => if 40 * k ≤ x ∧ x < 40 * k + j then 0 else F x
theorem q_zr_0 (F : Nat → Int64) (k : Nat) : q_zr F k 0 = F := by
  funext x
  unfold q_zr
  rw [if_neg (by omega)]
theorem q_zr_s (F : Nat → Int64) (k j : Nat) : vp_updL (q_zr F k j) (40 * k + j) 0 = q_zr F k (j + 1) := by
  funext x
  unfold vp_updL q_zr
  by_cases h : x = 40 * k + j
  · rw [if_pos h, if_pos (by omega)]
  · rw [if_neg h]
    by_cases h2 : 40 * k ≤ x ∧ x < 40 * k + j
    · rw [if_pos h2, if_pos (by omega)]
    · rw [if_neg h2, if_neg (by omega)]
theorem q_zr_40 (ss : Nat → SS) (k : Nat) (b : Int32) (n : Nat) : q_zr (q_b16 ss) k 40 = q_b16 (q_ssU ss k (q_beg b n)) := by
  funext x
  unfold q_zr q_b16 q_ssU
  by_cases h : x / 40 = k
  · rw [if_pos (by omega), if_pos h]; rfl
  · rw [if_neg (by omega), if_neg h]
/-- lent, and laid -/
def q_le (ss : Nat → SS) (x17 : Nat → Int64) (o j : Nat) : Nat → Int64 := fun i => if i < j then q_b16 ss (o + i) else x17 i
theorem q_le_0 (ss : Nat → SS) (x17 : Nat → Int64) (o : Nat) : q_le ss x17 o 0 = x17 := by
  funext i
  unfold q_le
  rw [if_neg (Nat.not_lt_zero i)]
theorem q_le_s (ss : Nat → SS) (x17 : Nat → Int64) (o j : Nat) : vp_updL (q_le ss x17 o j) j (q_b16 ss (o + j)) = q_le ss x17 o (j + 1) := by
  funext i
  unfold vp_updL q_le
  by_cases h : i = j
  · rw [if_pos h, if_pos (by omega), h]
  · rw [if_neg h]
    by_cases h2 : i < j
    · rw [if_pos h2, if_pos (by omega)]
    · rw [if_neg h2, if_neg (by omega)]
def q_ld (ss : Nat → SS) (o p j : Nat) : Nat → Int64 := fun x => if p ≤ x ∧ x < p + j then q_b16 ss (o + (x - p)) else q_b16 ss x
theorem q_ld_0 (ss : Nat → SS) (o p : Nat) : q_ld ss o p 0 = q_b16 ss := by
  funext x
  unfold q_ld
  rw [if_neg (by omega)]
theorem q_ld_s (ss : Nat → SS) (o p j : Nat) : vp_updL (q_ld ss o p j) (p + j) (q_b16 ss (o + j)) = q_ld ss o p (j + 1) := by
  funext x
  unfold vp_updL q_ld
  by_cases h : x = p + j
  · rw [if_pos h, if_pos (by omega), h, show p + j - p = j by omega]
  · rw [if_neg h]
    by_cases h2 : p ≤ x ∧ x < p + j
    · rw [if_pos h2, if_pos (by omega)]
    · rw [if_neg h2, if_neg (by omega)]
theorem q_ld_cpy (ss : Nat → SS) {k m fr to n : Nat} (h1 : fr + n ≤ 40) (h2 : to + n ≤ 40) : q_ld ss (40 * k + fr) (40 * m + to) n = q_b16 (q_ssU ss m ((ss m).1, (ss m).2.1, va_cpy (ss k).2.2 (ss m).2.2 fr to n)) := by
  funext x
  unfold q_ld
  by_cases h : 40 * m + to ≤ x ∧ x < 40 * m + to + n
  · rw [if_pos h, show 40 * k + fr + (x - (40 * m + to)) = 40 * k + (fr + (x - (40 * m + to))) by omega, q_b16_at ss (by omega)]
    unfold q_b16 q_ssU
    rw [if_pos (by omega)]
    show _ = va_cpy (ss k).2.2 (ss m).2.2 fr to n (x % 40)
    unfold va_cpy
    rw [if_pos (by omega), show x % 40 - to = x - (40 * m + to) by omega]
  · rw [if_neg h]
    unfold q_b16 q_ssU
    by_cases h3 : x / 40 = m
    · rw [if_pos h3]
      show _ = va_cpy (ss k).2.2 (ss m).2.2 fr to n (x % 40)
      unfold va_cpy
      rw [if_neg (by omega), h3]
    · rw [if_neg h3]
theorem z40 (k j : Nat) : (40 : Int32) * nI k + nI j = nI (40 * k + j) := by
  rw [show (40 : Int32) = nI 40 from rfl, pk_mul, nI_add]
theorem q_nar8 (v : Int64) : (v <<< ((56 : Int32).toInt64 &&& 63)) >>> ((56 : Int32).toInt64 &&& 63) = v.toInt32.toInt8.toInt32.toInt64 := by
  have h : ∀ v : BitVec 64, (v <<< 56).sshiftRight 56 = (((v.signExtend 32).signExtend 8).signExtend 32).signExtend 64 := by
    intro v
    apply BitVec.eq_of_getLsbD_eq
    intro i hi
    rw [BitVec.getLsbD_sshiftRight, BitVec.getLsbD_signExtend, BitVec.getLsbD_signExtend, BitVec.getLsbD_signExtend, BitVec.getLsbD_signExtend]
    simp only [BitVec.msb_eq_getLsbD_last, BitVec.getLsbD_signExtend, BitVec.getLsbD_shiftLeft]
    by_cases h8 : i < 8
    · simp [h8, hi, show 56 + i < 64 by omega, show i < 32 by omega, show ¬ 64 ≤ i by omega]
    · by_cases h32 : i < 32
      · simp [h8, hi, show ¬ 56 + i < 64 by omega, h32, show ¬ 64 ≤ i by omega]
      · simp [h8, hi, show ¬ 56 + i < 64 by omega, h32, show ¬ 64 ≤ i by omega]
  apply Int64.toBitVec_inj.mp
  exact h v.toBitVec
theorem q_nar16 (v : Int64) : (v <<< ((48 : Int32).toInt64 &&& 63)) >>> ((48 : Int32).toInt64 &&& 63) = v.toInt32.toInt16.toInt32.toInt64 := by
  have h : ∀ v : BitVec 64, (v <<< 48).sshiftRight 48 = (((v.signExtend 32).signExtend 16).signExtend 32).signExtend 64 := by
    intro v
    apply BitVec.eq_of_getLsbD_eq
    intro i hi
    rw [BitVec.getLsbD_sshiftRight, BitVec.getLsbD_signExtend, BitVec.getLsbD_signExtend, BitVec.getLsbD_signExtend, BitVec.getLsbD_signExtend]
    simp only [BitVec.msb_eq_getLsbD_last, BitVec.getLsbD_signExtend, BitVec.getLsbD_shiftLeft]
    by_cases h8 : i < 16
    · simp [h8, hi, show 48 + i < 64 by omega, show i < 32 by omega, show ¬ 64 ≤ i by omega]
    · by_cases h32 : i < 32
      · simp [h8, hi, show ¬ 48 + i < 64 by omega, h32, show ¬ 64 ≤ i by omega]
      · simp [h8, hi, show ¬ 48 + i < 64 by omega, h32, show ¬ 64 ≤ i by omega]
  apply Int64.toBitVec_inj.mp
  exact h v.toBitVec
theorem q_cmp_gt {x y : Int64} : (0 < lg_cmp x y ↔ y < x) := by
  refine ⟨fun h => ?_, fun h => ?_⟩
  · unfold lg_cmp at h
    by_cases c : y < x
    · exact c
    · simp only [c, if_false] at h
      split at h <;> exact absurd h (by decide)
  · exact Decidable.byContradiction (fun q => q_cmp_le q h)
theorem q_holds_m {S : SS} {p q : Nat} (hS : S.2.1 ≤ 40) (hp : p < 2 ^ 31) (hq : q < 2 ^ 31) : q_holds S (nI p) (nI q) = decide (p + q ≤ S.2.1) := by
  unfold q_holds
  rw [decide_eq_false (nI_pos hp), decide_eq_false (nI_pos hq), nI_l hp, nI_l hq, nI_l (show S.2.1 < 2 ^ 31 by omega), lN_add]
  by_cases h : p + q ≤ S.2.1
  · rw [decide_eq_true h, decide_eq_false (fun z => absurd (q_cmp_gt.mp z) (by rw [pk_lLT (by omega) (by omega)]; omega))]
    rfl
  · rw [decide_eq_false h, decide_eq_true (q_cmp_gt.mpr (by rw [pk_lLT (by omega) (by omega)]; omega))]
    rfl
