/-! ===== the reference's row and a road ===== -/
def zRo (P : RS) (row : Nat → Int32) : Prop := row 0 = P.1 ∧ row 1 = nI P.2.1 ∧ row 2 = nI P.2.2.1 ∧
  (∀ p, p < 7 → row (3 + 5 * p + 0) = rk P p ∧ row (3 + 5 * p + 1) = rm P p ∧ row (3 + 5 * p + 2) = rg P p ∧ row (3 + 5 * p + 3) = rs P p ∧ row (3 + 5 * p + 4) = zB (P.2.2.2.1.testBit p)) ∧
  (∀ t, t < 8 → row (38 + 4 * t + 0) = rso P t ∧ row (38 + 4 * t + 1) = rtm P t ∧ row (38 + 4 * t + 2) = rne P t ∧ row (38 + 4 * t + 3) = rpa P t)
/-- what may be on a road -/
def zRg (P : RS) : Prop := P.2.2.2.1 < 2 ^ P.2.1 ∧ (∃ h, h ≤ 9999 ∧ P.1 = nI h) ∧
  (∀ p, p < P.2.1 → (∃ c, c < 6 ∧ rk P p = nI c) ∧ (∃ m, m < 31 ∧ rm P p = nI m) ∧ (∃ m, m < 31 ∧ rg P p = nI m) ∧ (∃ s, 1 ≤ s ∧ s ≤ 9 ∧ rs P p = nI s)) ∧
  (∀ t, t < P.2.2.1 → (∃ c, c < 5 ∧ rso P t = nI c) ∧ (∃ m, m < 31 ∧ rtm P t = nI m) ∧ (∃ e, 1 ≤ e ∧ e ≤ 99 ∧ rne P t = nI e) ∧ (∃ y, y ≤ 99 ∧ rpa P t = nI y))
def q_size (x : Int32) : Int32 := if 0 ≤ x then x else -x
def q_un (k w : Int32) : Bool := decide (w = 0) || (decide (w = k) || ((decide (w = 1) && decide (k = 4)) || (decide (w = 3) && decide (k = 5))))
theorem q_un_of {c : Nat} (hc : c < 6) (w : Int32) : q_un (nI c) w = q_of (nI c) w := by
  have h : c = 0 ∨ c = 1 ∨ c = 2 ∨ c = 3 ∨ c = 4 ∨ c = 5 := by omega
  have e : ∀ v : Int32, decide (v = w) = decide (w = v) := fun v => by
    by_cases q : v = w
    · rw [decide_eq_true q, decide_eq_true q.symm]
    · rw [decide_eq_false q, decide_eq_false (fun z => q z.symm)]
  rcases h with rfl | rfl | rfl | rfl | rfl | rfl
  · simp only [q_un, q_of, nI_0, e]
    simp
  all_goals
    rw [show q_of _ w = _ from rfl]
    simp only [q_un, e]
    by_cases h0 : w = 0
    · subst h0; decide
    · by_cases h1 : w = 1
      · subst h1; decide
      · by_cases h2 : w = 2
        · subst h2; decide
        · by_cases h3 : w = 3
          · subst h3; decide
          · by_cases h4 : w = 4
            · subst h4; decide
            · by_cases h5 : w = 5
              · subst h5; decide
              · rw [q_of]
                simp [e, h0, h1, h2, h3, h4, h5, show (nI 1 : Int32) = 1 from rfl, show (nI 2 : Int32) = 2 from rfl, show (nI 3 : Int32) = 3 from rfl, show (nI 4 : Int32) = 4 from rfl, show (nI 5 : Int32) = 5 from rfl]
theorem q_size_abs (x : Int32) : q_size x = q_abs x := by
  unfold q_size q_abs
  rw [Int32.zero_sub]
theorem q_size_sym {a b : Nat} (ha : a < 31) (hb : b < 31) : q_size (nI a - nI b) = q_abs (nI b - nI a) := by
  have k : ∀ a b : Fin 31, q_size (nI a.val - nI b.val) = q_abs (nI b.val - nI a.val) := by decide +kernel
  exact k ⟨a, ha⟩ ⟨b, hb⟩
theorem q_not_tb {z p : Nat} (hp : p < 32) : (q_not z).testBit p = !z.testBit p := by
  unfold q_not
  rw [Nat.testBit_xor, show (4294967295 : Nat) = 2 ^ 32 - 1 from rfl, Nat.testBit_two_pow_sub_one, decide_eq_true hp]
  simp
theorem q_awk_tb {P : RS} (h : P.2.1 ≤ 7) (p : Nat) : (q_awk P).testBit p = (decide (p < P.2.1) && !P.2.2.2.1.testBit p) := by
  unfold q_awk q_all
  rw [Nat.testBit_and, Nat.testBit_two_pow_sub_one]
  by_cases hp : p < P.2.1
  · rw [q_not_tb (by omega)]
  · rw [decide_eq_false hp]; rfl
theorem q_mask_tb (f : Nat → Bool) : ∀ (n i : Nat), (q_mask f n).testBit i = (decide (i < n) && f i)
  | 0, i => by simp [q_mask]
  | n + 1, i => by
    have ih := q_mask_tb f n i
    rw [q_mask]
    by_cases c : f n = true
    · rw [if_pos c, Nat.testBit_or, ih, Nat.testBit_two_pow]
      by_cases e : i = n
      · subst e; simp [c]
      · have e2 : ¬ n = i := fun z => e z.symm
        by_cases l : i < n
        · simp [l, e2, Nat.lt_succ_of_lt l]
        · simp [l, e2, show ¬ i < n + 1 by omega]
    · rw [if_neg c, ih]
      by_cases e : i = n
      · subst e; simp [c]
      · by_cases l : i < n
        · simp [l, Nat.lt_succ_of_lt l]
        · simp [l, show ¬ i < n + 1 by omega]
theorem q_spm_tb {P : RS} {aw i : Nat} (hi : i < P.2.1) : (q_spm P aw).testBit i = q_spoilt P aw i := by
  unfold q_spm
  rw [q_mask_tb, decide_eq_true hi]
  rfl
theorem q_metS_tb {P : RS} {aw t : Nat} (ht : t < P.2.2.1) : (q_metS P aw).testBit t = q_isMet P aw t := by
  unfold q_metS
  rw [q_mask_tb, decide_eq_true ht]
  rfl
theorem zrow {p w : Nat} (hw : w < 5) : (3 : Int32) + 5 * nI p + nI w = nI (3 + 5 * p + w) := by
  rw [show (3 : Int32) = nI 3 from rfl, show (5 : Int32) = nI 5 from rfl, pk_mul, nI_add, nI_add]
theorem ztsk {t w : Nat} : (38 : Int32) + 4 * nI t + nI w = nI (38 + 4 * t + w) := by
  rw [show (38 : Int32) = nI 38 from rfl, show (4 : Int32) = nI 4 from rfl, pk_mul, nI_add, nI_add]
theorem q_work2 {c : Nat} (hc : c < 5) (k s : Int32) : q_work k (nI c) s = (if nI c = 0 then (if k = 1 then 5 * s else if k = 4 then 10 * s else 1) else if nI c = 1 then (if k = 2 then 6 * s else 1) else if nI c = 2 then (if k = 3 then 7 * s else if k = 5 then 7 * s / 2 else 1) else if nI c = 3 then (if k = 5 then 8 * s else 1) else (if k = 4 then 0 else 2 * s)) := by
  have h10 : (2 : Int32) * (5 * s) = 10 * s := by
    rw [← Int32.mul_assoc]
    rfl
  have h : c = 0 ∨ c = 1 ∨ c = 2 ∨ c = 3 ∨ c = 4 := by omega
  unfold q_work
  rcases h with rfl | rfl | rfl | rfl | rfl
  · rw [if_pos (show nI 0 = 0 from rfl), if_pos (show nI 0 = 0 from rfl), h10]
  · rw [if_neg (show ¬ nI 1 = 0 by decide), if_pos (show nI 1 = 1 from rfl), if_neg (show ¬ nI 1 = 0 by decide), if_pos (show nI 1 = 1 from rfl)]
  · rw [if_neg (show ¬ nI 2 = 0 by decide), if_neg (show ¬ nI 2 = 1 by decide), if_pos (show nI 2 = 2 from rfl), if_neg (show ¬ nI 2 = 0 by decide), if_neg (show ¬ nI 2 = 1 by decide), if_pos (show nI 2 = 2 from rfl)]
  · rw [if_neg (show ¬ nI 3 = 0 by decide), if_neg (show ¬ nI 3 = 1 by decide), if_neg (show ¬ nI 3 = 2 by decide), if_pos (show nI 3 = 3 from rfl), if_neg (show ¬ nI 3 = 0 by decide), if_neg (show ¬ nI 3 = 1 by decide), if_neg (show ¬ nI 3 = 2 by decide), if_pos (show nI 3 = 3 from rfl)]
  · rw [if_neg (show ¬ nI 4 = 0 by decide), if_neg (show ¬ nI 4 = 1 by decide), if_neg (show ¬ nI 4 = 2 by decide), if_neg (show ¬ nI 4 = 3 by decide), if_pos (show nI 4 = 4 from rfl), if_neg (show ¬ nI 4 = 0 by decide), if_neg (show ¬ nI 4 = 1 by decide), if_neg (show ¬ nI 4 = 2 by decide), if_neg (show ¬ nI 4 = 3 by decide)]
theorem q_max0 (x : Int32) : q_max 0 x = if 0 ≤ x then x else 0 := by
  unfold q_max
  by_cases h : (0 : Int32) < x
  · rw [if_pos h, if_pos (Int32.le_of_lt h)]
  · rw [if_neg h]
    by_cases h2 : (0 : Int32) ≤ x
    · rw [if_pos h2]
      exact Int32.le_antisymm h2 (Int32.not_lt.mp h)
    · rw [if_neg h2]
/-- a sum of what is there or nothing -/
theorem q_sumif_add {f : Nat → Bool} {v : Nat → Int32} {j : Nat} (h : f j = false) : q_sumif f v (j + 1) = q_sumif f v j + 0 := by rw [q_sumif_f h, Int32.add_zero]
theorem q_mask_f0 {f : Nat → Bool} {j : Nat} (h : f j = false) : nI (q_mask f j) ||| 0 = nI (q_mask f (j + 1)) := by
  rw [q_mask_f h, show (0 : Int32) = nI 0 from rfl, zor, Nat.or_zero]
def q_bt8 (a : Nat) : Nat → Nat
  | 0 => 0
  | j + 1 => q_bt8 a j + a / 2 ^ j % 2
theorem q_bt8_bits (a : Nat) : q_bt8 a 8 = q_bits a := by
  show 0 + a / 1 % 2 + a / 2 % 2 + a / 4 % 2 + a / 8 % 2 + a / 16 % 2 + a / 32 % 2 + a / 64 % 2 + a / 128 % 2 = _
  rw [Nat.div_one]
  unfold q_bits
  omega
theorem zbit1 {a j : Nat} (ha : a < 2 ^ 31) (hj : j < 31) : (nI a >>> (nI j &&& 31)) &&& 1 = nI (a / 2 ^ j % 2) := by
  have h31 : ∀ j : Fin 31, ((nI j.val &&& 31).toBitVec.smod 32).toNat = j.val := by decide +kernel
  rw [pk_shrN ha _ j (h31 ⟨j, hj⟩), show (1 : Int32) = nI 1 from rfl, zand, Nat.and_one_is_mod]
theorem q_spoilt_m {P : RS} {aw p c : Nat} (hc : c < 6) (ek : rk P p = nI c) : q_spoilt P aw p = if rk P p = 2 then q_near P aw p 3 P.2.1 else (q_un (rk P p) 1 && q_near P aw p 5 P.2.1) := by
  have h : c = 0 ∨ c = 1 ∨ c = 2 ∨ c = 3 ∨ c = 4 ∨ c = 5 := by omega
  unfold q_spoilt
  rw [ek]
  rcases h with rfl | rfl | rfl | rfl | rfl | rfl
  · rw [show q_spo (nI 0) = -1 by decide, if_pos rfl, if_neg (show ¬ nI 0 = 2 by decide), show q_un (nI 0) 1 = false by decide]; rfl
  · rw [show q_spo (nI 1) = 5 by decide, if_neg (show ¬ (5 : Int32) = -1 by decide), if_neg (show ¬ nI 1 = 2 by decide), show q_un (nI 1) 1 = true by decide]; rfl
  · rw [show q_spo (nI 2) = 3 by decide, if_neg (show ¬ (3 : Int32) = -1 by decide), if_pos (show nI 2 = 2 by decide)]
  · rw [show q_spo (nI 3) = -1 by decide, if_pos rfl, if_neg (show ¬ nI 3 = 2 by decide), show q_un (nI 3) 1 = false by decide]; rfl
  · rw [show q_spo (nI 4) = 5 by decide, if_neg (show ¬ (5 : Int32) = -1 by decide), if_neg (show ¬ nI 4 = 2 by decide), show q_un (nI 4) 1 = true by decide]; rfl
  · rw [show q_spo (nI 5) = -1 by decide, if_pos rfl, if_neg (show ¬ nI 5 = 2 by decide), show q_un (nI 5) 1 = false by decide]; rfl
/-! one hour, as the reference lets it go -/
def q_step (as : Nat) (gl m : Nat → Int32) (k : Nat → Int32) (p : Nat) : Int32 := if as.testBit p then 0 else if gl p - m p ≤ q_pace (k p) then (if -(q_pace (k p)) ≤ gl p - m p then gl p - m p else -(q_pace (k p))) else q_pace (k p)
