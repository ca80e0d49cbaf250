theorem zRo.setK {P : RS} {r : Nat → Int32} {p : Nat} (v : Int32) (h : zRo P r) (hp : p < 7) : zRo (q_setK P p v) (upd r (3 + 5 * p + 0) v) := by
  refine ⟨(upd_ne (by omega)).trans h.1, (upd_ne (by omega)).trans h.2.1, (upd_ne (by omega)).trans h.2.2.1, fun q hq => ⟨by
      show upd r (3 + 5 * p + 0) v (3 + 5 * q + 0) = upd (rk P) p v q
      unfold upd
      by_cases e : q = p
      · rw [if_pos (by omega), if_pos e]
      · rw [if_neg (by omega), if_neg e]; exact (h.2.2.2.1 q hq).1, (upd_ne (by omega)).trans (h.2.2.2.1 q hq).2.1, (upd_ne (by omega)).trans (h.2.2.2.1 q hq).2.2.1, (upd_ne (by omega)).trans (h.2.2.2.1 q hq).2.2.2.1, (upd_ne (by omega)).trans (h.2.2.2.1 q hq).2.2.2.2⟩, fun t ht => ⟨(upd_ne (by omega)).trans (h.2.2.2.2 t ht).1, (upd_ne (by omega)).trans (h.2.2.2.2 t ht).2.1, (upd_ne (by omega)).trans (h.2.2.2.2 t ht).2.2.1, (upd_ne (by omega)).trans (h.2.2.2.2 t ht).2.2.2⟩⟩
theorem zRo.setM {P : RS} {r : Nat → Int32} {p : Nat} (v : Int32) (h : zRo P r) (hp : p < 7) : zRo (q_setM P p v) (upd r (3 + 5 * p + 1) v) := by
  refine ⟨(upd_ne (by omega)).trans h.1, (upd_ne (by omega)).trans h.2.1, (upd_ne (by omega)).trans h.2.2.1, fun q hq => ⟨(upd_ne (by omega)).trans (h.2.2.2.1 q hq).1, by
      show upd r (3 + 5 * p + 1) v (3 + 5 * q + 1) = upd (rm P) p v q
      unfold upd
      by_cases e : q = p
      · rw [if_pos (by omega), if_pos e]
      · rw [if_neg (by omega), if_neg e]; exact (h.2.2.2.1 q hq).2.1, (upd_ne (by omega)).trans (h.2.2.2.1 q hq).2.2.1, (upd_ne (by omega)).trans (h.2.2.2.1 q hq).2.2.2.1, (upd_ne (by omega)).trans (h.2.2.2.1 q hq).2.2.2.2⟩, fun t ht => ⟨(upd_ne (by omega)).trans (h.2.2.2.2 t ht).1, (upd_ne (by omega)).trans (h.2.2.2.2 t ht).2.1, (upd_ne (by omega)).trans (h.2.2.2.2 t ht).2.2.1, (upd_ne (by omega)).trans (h.2.2.2.2 t ht).2.2.2⟩⟩
theorem zRo.setG {P : RS} {r : Nat → Int32} {p : Nat} (v : Int32) (h : zRo P r) (hp : p < 7) : zRo (q_setG P p v) (upd r (3 + 5 * p + 2) v) := by
  refine ⟨(upd_ne (by omega)).trans h.1, (upd_ne (by omega)).trans h.2.1, (upd_ne (by omega)).trans h.2.2.1, fun q hq => ⟨(upd_ne (by omega)).trans (h.2.2.2.1 q hq).1, (upd_ne (by omega)).trans (h.2.2.2.1 q hq).2.1, by
      show upd r (3 + 5 * p + 2) v (3 + 5 * q + 2) = upd (rg P) p v q
      unfold upd
      by_cases e : q = p
      · rw [if_pos (by omega), if_pos e]
      · rw [if_neg (by omega), if_neg e]; exact (h.2.2.2.1 q hq).2.2.1, (upd_ne (by omega)).trans (h.2.2.2.1 q hq).2.2.2.1, (upd_ne (by omega)).trans (h.2.2.2.1 q hq).2.2.2.2⟩, fun t ht => ⟨(upd_ne (by omega)).trans (h.2.2.2.2 t ht).1, (upd_ne (by omega)).trans (h.2.2.2.2 t ht).2.1, (upd_ne (by omega)).trans (h.2.2.2.2 t ht).2.2.1, (upd_ne (by omega)).trans (h.2.2.2.2 t ht).2.2.2⟩⟩
theorem zRo.setS {P : RS} {r : Nat → Int32} {p : Nat} (v : Int32) (h : zRo P r) (hp : p < 7) : zRo (q_setS P p v) (upd r (3 + 5 * p + 3) v) := by
  refine ⟨(upd_ne (by omega)).trans h.1, (upd_ne (by omega)).trans h.2.1, (upd_ne (by omega)).trans h.2.2.1, fun q hq => ⟨(upd_ne (by omega)).trans (h.2.2.2.1 q hq).1, (upd_ne (by omega)).trans (h.2.2.2.1 q hq).2.1, (upd_ne (by omega)).trans (h.2.2.2.1 q hq).2.2.1, by
      show upd r (3 + 5 * p + 3) v (3 + 5 * q + 3) = upd (rs P) p v q
      unfold upd
      by_cases e : q = p
      · rw [if_pos (by omega), if_pos e]
      · rw [if_neg (by omega), if_neg e]; exact (h.2.2.2.1 q hq).2.2.2.1, (upd_ne (by omega)).trans (h.2.2.2.1 q hq).2.2.2.2⟩, fun t ht => ⟨(upd_ne (by omega)).trans (h.2.2.2.2 t ht).1, (upd_ne (by omega)).trans (h.2.2.2.2 t ht).2.1, (upd_ne (by omega)).trans (h.2.2.2.2 t ht).2.2.1, (upd_ne (by omega)).trans (h.2.2.2.2 t ht).2.2.2⟩⟩
theorem q_sl_tb {z i : Nat} (hi : i < 32) (c : Bool) (q : Nat) (hq : q < 32) : (q_sl z i c).testBit q = if q = i then c else z.testBit q := by
  unfold q_sl
  by_cases e : q = i
  · rw [if_pos e]
    cases c
    · rw [if_neg (by decide), Nat.testBit_and, q_not_tb hq, e, Nat.testBit_two_pow_self]; simp
    · rw [if_pos rfl, Nat.testBit_or, e, Nat.testBit_two_pow_self]; simp
  · rw [if_neg e]
    have e2 : ¬ i = q := fun z => e z.symm
    cases c
    · rw [if_neg (by decide), Nat.testBit_and, q_not_tb hq, Nat.testBit_two_pow]; simp [e2]
    · rw [if_pos rfl, Nat.testBit_or, Nat.testBit_two_pow]; simp [e2]
theorem zRo.slp {P : RS} {r : Nat → Int32} {p : Nat} (c : Bool) (h : zRo P r) (hp : p < 7) : zRo (q_slp P p c) (upd r (3 + 5 * p + 4) (zB c)) := by
  refine ⟨(upd_ne (by omega)).trans h.1, (upd_ne (by omega)).trans h.2.1, (upd_ne (by omega)).trans h.2.2.1, fun q hq => ⟨(upd_ne (by omega)).trans (h.2.2.2.1 q hq).1, (upd_ne (by omega)).trans (h.2.2.2.1 q hq).2.1, (upd_ne (by omega)).trans (h.2.2.2.1 q hq).2.2.1, (upd_ne (by omega)).trans (h.2.2.2.1 q hq).2.2.2.1, ?_⟩, fun t ht => ⟨(upd_ne (by omega)).trans (h.2.2.2.2 t ht).1, (upd_ne (by omega)).trans (h.2.2.2.2 t ht).2.1, (upd_ne (by omega)).trans (h.2.2.2.2 t ht).2.2.1, (upd_ne (by omega)).trans (h.2.2.2.2 t ht).2.2.2⟩⟩
  show upd r (3 + 5 * p + 4) (zB c) (3 + 5 * q + 4) = zB ((q_sl P.2.2.2.1 p c).testBit q)
  rw [q_sl_tb (by omega) c q (by omega)]
  unfold upd
  by_cases e : q = p
  · rw [if_pos (by omega), if_pos e]
  · rw [if_neg (by omega), if_neg e]; exact (h.2.2.2.1 q hq).2.2.2.2
theorem zRg.setK {P : RS} {p : Nat} {v : Int32} (h : zRg P) (hv : ∃ c, c < 6 ∧ v = nI c) : zRg (q_setK P p v) := ⟨h.1, h.2.1, fun q hq => ⟨by
    show ∃ c, c < 6 ∧ upd (rk P) p v q = nI c
    unfold upd
    by_cases e : q = p
    · rw [if_pos e]; exact hv
    · rw [if_neg e]; exact (h.2.2.1 q hq).1, (h.2.2.1 q hq).2.1, (h.2.2.1 q hq).2.2.1, (h.2.2.1 q hq).2.2.2⟩, h.2.2.2⟩
theorem zRg.setM {P : RS} {p : Nat} {v : Int32} (h : zRg P) (hv : ∃ m, m < 31 ∧ v = nI m) : zRg (q_setM P p v) := ⟨h.1, h.2.1, fun q hq => ⟨(h.2.2.1 q hq).1, by
    show ∃ m, m < 31 ∧ upd (rm P) p v q = nI m
    unfold upd
    by_cases e : q = p
    · rw [if_pos e]; exact hv
    · rw [if_neg e]; exact (h.2.2.1 q hq).2.1, (h.2.2.1 q hq).2.2.1, (h.2.2.1 q hq).2.2.2⟩, h.2.2.2⟩
theorem zRg.setG {P : RS} {p : Nat} {v : Int32} (h : zRg P) (hv : ∃ m, m < 31 ∧ v = nI m) : zRg (q_setG P p v) := ⟨h.1, h.2.1, fun q hq => ⟨(h.2.2.1 q hq).1, (h.2.2.1 q hq).2.1, by
    show ∃ m, m < 31 ∧ upd (rg P) p v q = nI m
    unfold upd
    by_cases e : q = p
    · rw [if_pos e]; exact hv
    · rw [if_neg e]; exact (h.2.2.1 q hq).2.2.1, (h.2.2.1 q hq).2.2.2⟩, h.2.2.2⟩
theorem zRg.setS {P : RS} {p : Nat} {v : Int32} (h : zRg P) (hv : ∃ s, 1 ≤ s ∧ s ≤ 9 ∧ v = nI s) : zRg (q_setS P p v) := ⟨h.1, h.2.1, fun q hq => ⟨(h.2.2.1 q hq).1, (h.2.2.1 q hq).2.1, (h.2.2.1 q hq).2.2.1, by
    show ∃ s, 1 ≤ s ∧ s ≤ 9 ∧ upd (rs P) p v q = nI s
    unfold upd
    by_cases e : q = p
    · rw [if_pos e]; exact hv
    · rw [if_neg e]; exact (h.2.2.1 q hq).2.2.2⟩, h.2.2.2⟩
theorem zRg.slp {P : RS} {p : Nat} (h : zRg P) (h7 : P.2.1 ≤ 7) (hp : p < P.2.1) (c : Bool) : zRg (q_slp P p c) := by
  refine ⟨?_, h.2.1, h.2.2.1, h.2.2.2⟩
  show q_sl P.2.2.2.1 p c < 2 ^ P.2.1
  unfold q_sl
  split
  · exact Nat.or_lt_two_pow h.1 (Nat.pow_lt_pow_right (by decide) hp)
  · exact Nat.lt_of_le_of_lt Nat.and_le_left h.1
theorem upd_upd (r : Nat → Int32) (i : Nat) (v w : Int32) : upd (upd r i v) i w = upd r i w := by
  funext x
  unfold upd
  by_cases h : x = i
  · rw [if_pos h, if_pos h]
  · rw [if_neg h, if_neg h, if_neg h]
theorem upd_back (r : Nat → Int32) {i : Nat} {v w : Int32} (h : r i = w) : upd (upd r i v) i w = r := by
  subst h
  exact q_upd_back r i v
theorem q_earn_pos {P : RS} (hG : zRg P) (h8 : P.2.2.1 ≤ 8) (aw : Nat) : ∃ e, e ≤ 792 ∧ q_earn P aw = nI e := by
  have key : ∀ j, j ≤ P.2.2.1 → ∃ e, e ≤ 99 * j ∧ q_sumif (fun t => (q_metS P aw).testBit t) (rpa P) j = nI e := by
    intro j
    induction j with
    | zero => intro _; exact ⟨0, Nat.le_refl _, rfl⟩
    | succ j ih =>
      intro hj
      obtain ⟨e, he, ee⟩ := ih (by omega)
      obtain ⟨y, hy, ey⟩ := (hG.2.2.2 j (by omega)).2.2.2
      rw [q_sumif]
      split
      · exact ⟨e + y, by omega, by rw [ee, ey, nI_add]⟩
      · exact ⟨e, by omega, ee⟩
  obtain ⟨e, he, ee⟩ := key P.2.2.1 (Nat.le_refl _)
  exact ⟨e, by omega, ee⟩
def q_h1 (P : RS) : RS := (P.1, P.2.1, P.2.2.1, P.2.2.2.1, rk P, q_goM P 1 P.2.1, rg P, rs P, rso P, rtm P, rne P, rpa P)
def q_cl (m g c : Int) : Int := if g - m ≤ c then (if -c ≤ g - m then g - m else -c) else c
theorem q_goM_at (P : RS) (h : Int32) : ∀ (n p : Nat), q_goM P h n p = if p < n then (if P.2.2.2.1.testBit p then rm P p else rm P p + q_max (-(h * q_pace (rk P p))) (q_min (h * q_pace (rk P p)) (rg P p - rm P p))) else rm P p
  | 0, p => by rw [if_neg (Nat.not_lt_zero p)]; rfl
  | n + 1, p => by
    have ih := q_goM_at P h n
    rw [q_goM]
    by_cases hs : P.2.2.2.1.testBit n = true
    · rw [if_pos hs, ih p]
      by_cases hp : p < n
      · rw [if_pos hp, if_pos (show p < n + 1 by omega)]
      · rw [if_neg hp]
        by_cases e : p = n
        · rw [if_pos (by omega), e, if_pos hs]
        · rw [if_neg (by omega)]
    · rw [if_neg hs]
      unfold upd
      by_cases e : p = n
      · rw [if_pos e, if_pos (by omega), e, if_neg hs, ih n, if_neg (Nat.lt_irrefl n)]
      · rw [if_neg e, ih p]
        by_cases hp : p < n
        · rw [if_pos hp, if_pos (show p < n + 1 by omega)]
        · rw [if_neg hp, if_neg (by omega)]
theorem q_hr_at (r : Nat → Int32) : ∀ (n x : Nat), (∀ p, p < n → ¬ x = 3 + 5 * p + 1) → q_hr r n x = r x
  | 0, x, _ => rfl
  | n + 1, x, h => by
    rw [q_hr, upd_ne (h n (Nat.lt_succ_self n))]
    exact q_hr_at r n x (fun p hp => h p (by omega))
theorem q_stp_eq {r r2 : Nat → Int32} {p : Nat} (h : ∀ w, w < 5 → r (3 + 5 * p + w) = r2 (3 + 5 * p + w)) : q_stp r p = q_stp r2 p := by
  unfold q_stp
  rw [h 0 (by decide), h 1 (by decide), h 2 (by decide), h 4 (by decide)]
theorem q_hr_in (r : Nat → Int32) : ∀ (n p : Nat), p < n → q_hr r n (3 + 5 * p + 1) = r (3 + 5 * p + 1) + q_stp r p
  | 0, p, h => absurd h (Nat.not_lt_zero p)
  | n + 1, p, h => by
    rw [q_hr]
    by_cases e : p = n
    · rw [e, upd_eq, q_hr_at r n _ (fun q hq => by omega), q_stp_eq (r2 := r) (fun w hw => q_hr_at r n _ (fun q hq => by omega))]
    · rw [upd_ne (by omega)]
      exact q_hr_in r n p (by omega)
theorem q_pace3 (k : Int32) : q_pace k = 3 ∨ q_pace k = 6 ∨ q_pace k = 1 := by
  unfold q_pace
  split
  · exact Or.inl rfl
  · split
    · exact Or.inr (Or.inl rfl)
    · exact Or.inr (Or.inr rfl)
theorem q_clamp (c way : Int32) (hc : -c < c) : (if way ≤ c then (if -c ≤ way then way else -c) else c) = q_max (-(1 * c)) (q_min (1 * c) way) := by
  rw [Int32.one_mul]
  unfold q_max q_min
  by_cases h1 : way ≤ c
  · rw [if_pos h1]
    by_cases h2 : way < c
    · rw [if_pos h2]
      by_cases h3 : -c ≤ way
      · rw [if_pos h3]
        by_cases h4 : -c < way
        · rw [if_pos h4]
        · rw [if_neg h4]; exact (Int32.le_antisymm h3 (Int32.not_lt.mp h4)).symm
      · rw [if_neg h3, if_neg (fun q => h3 (Int32.le_of_lt q))]
    · have e : way = c := Int32.le_antisymm h1 (Int32.not_lt.mp h2)
      rw [if_neg h2, e, if_pos hc, if_pos (Int32.le_of_lt hc)]
  · rw [if_neg h1, if_neg (fun q => h1 (Int32.le_of_lt q)), if_pos hc]
theorem q_stp_go {P : RS} {r : Nat → Int32} (h : zRo P r) {p : Nat} (hp : p < 7) : r (3 + 5 * p + 1) + q_stp r p = if P.2.2.2.1.testBit p then rm P p else rm P p + q_max (-(1 * q_pace (rk P p))) (q_min (1 * q_pace (rk P p)) (rg P p - rm P p)) := by
  obtain ⟨h0, h1, h2, h3, h4⟩ := h.2.2.2.1 p hp
  unfold q_stp
  rw [h0, h1, h2, h4]
  have hc : -(q_pace (rk P p)) < q_pace (rk P p) ∧ (0 : Int32) ≤ q_pace (rk P p) ∧ -(q_pace (rk P p)) ≤ 0 := by
    rcases q_pace3 (rk P p) with e | e | e <;> rw [e] <;> decide
  by_cases hs : P.2.2.2.1.testBit p = true
  · rw [hs, if_pos (show zB true = 1 from rfl), if_pos hc.2.1, if_pos hc.2.2, if_pos rfl, Int32.add_zero]
  · have hs2 : P.2.2.2.1.testBit p = false := Bool.eq_false_iff.mpr hs
    rw [hs2, if_neg (show ¬ zB false = 1 by decide), if_neg (show ¬ (false = true) by decide), q_clamp _ _ hc.1]
theorem zRo.h1 {P : RS} {r : Nat → Int32} (h : zRo P r) (h7 : P.2.1 ≤ 7) : zRo (q_h1 P) (q_hr r P.2.1) := by
  have un : ∀ x, (∀ p, p < P.2.1 → ¬ x = 3 + 5 * p + 1) → q_hr r P.2.1 x = r x := q_hr_at r P.2.1
  refine ⟨(un 0 (fun p hp => by omega)).trans h.1, (un 1 (fun p hp => by omega)).trans h.2.1, (un 2 (fun p hp => by omega)).trans h.2.2.1, fun q hq => ⟨(un _ (fun p hp => by omega)).trans (h.2.2.2.1 q hq).1, ?_, (un _ (fun p hp => by omega)).trans (h.2.2.2.1 q hq).2.2.1, (un _ (fun p hp => by omega)).trans (h.2.2.2.1 q hq).2.2.2.1, (un _ (fun p hp => by omega)).trans (h.2.2.2.1 q hq).2.2.2.2⟩, fun t ht => ⟨(un _ (fun p hp => by omega)).trans (h.2.2.2.2 t ht).1, (un _ (fun p hp => by omega)).trans (h.2.2.2.2 t ht).2.1, (un _ (fun p hp => by omega)).trans (h.2.2.2.2 t ht).2.2.1, (un _ (fun p hp => by omega)).trans (h.2.2.2.2 t ht).2.2.2⟩⟩
  show q_hr r P.2.1 (3 + 5 * q + 1) = q_goM P 1 P.2.1 q
  rw [q_goM_at]
  by_cases hn : q < P.2.1
  · rw [if_pos hn, q_hr_in r _ _ hn, q_stp_go h hq]
  · rw [if_neg hn, un _ (fun p hp => by omega)]
    exact (h.2.2.2.1 q hq).2.1
theorem zRg.h1 {P : RS} (h : zRg P) : zRg (q_h1 P) := by
  refine ⟨h.1, h.2.1, fun q hq => ⟨(h.2.2.1 q hq).1, ?_, (h.2.2.1 q hq).2.2.1, (h.2.2.1 q hq).2.2.2⟩, h.2.2.2⟩
  have hq' : q < P.2.1 := hq
  show ∃ m, m < 31 ∧ q_goM P 1 P.2.1 q = nI m
  rw [q_goM_at, if_pos hq']
  by_cases hs : P.2.2.2.1.testBit q = true
  · rw [if_pos hs]; exact (h.2.2.1 q hq).2.1
  · rw [if_neg hs]
    obtain ⟨x, hx, ex⟩ := (h.2.2.1 q hq).2.1
    obtain ⟨y, hy, ey⟩ := (h.2.2.1 q hq).2.2.1
    rw [ex, ey]
    exact q_mile1 hx hy (q_pace3 _)
def q_hN (P : RS) : Nat → RS
  | 0 => P
  | k + 1 => q_h1 (q_hN P k)
theorem q_goM_2 {P Q : RS} (h : P.2 = Q.2) (x : Int32) : ∀ n, q_goM P x n = q_goM Q x n := by
  obtain ⟨p, X⟩ := P
  obtain ⟨q, Y⟩ := Q
  have h' : X = Y := h
  subst h'
  intro n
  induction n with
  | zero => rfl
  | succ n ih => rw [q_goM, q_goM, ih]
theorem q_h1_2 {P Q : RS} (h : P.2 = Q.2) : (q_h1 P).2 = (q_h1 Q).2 := by
  have e := q_goM_2 h 1 P.2.1
  obtain ⟨p, X⟩ := P
  obtain ⟨q, Y⟩ := Q
  have h' : X = Y := h
  subst h'
  show (X.1, X.2.1, X.2.2.1, rk (p, X), q_goM (p, X) 1 X.1, rg (p, X), rs (p, X), rso (p, X), rtm (p, X), rne (p, X), rpa (p, X)) = (X.1, X.2.1, X.2.2.1, rk (q, X), q_goM (q, X) 1 X.1, rg (q, X), rs (q, X), rso (q, X), rtm (q, X), rne (q, X), rpa (q, X))
  rw [show q_goM (p, X) 1 X.1 = q_goM (q, X) 1 X.1 from e]
theorem q_go1 (P : RS) : (q_go P 1).2 = (q_h1 P).2 := rfl
theorem q_hN_it (P : RS) : ∀ k, (q_hN P k).2 = (q_it P k).2
  | 0 => rfl
  | k + 1 => (q_h1_2 (q_hN_it P k)).trans (q_go1 (q_it P k)).symm
theorem q_near_2 {P Q : RS} (h : P.2 = Q.2) (aw i : Nat) (sp : Int32) : ∀ n, q_near P aw i sp n = q_near Q aw i sp n := by
  obtain ⟨p, X⟩ := P
  obtain ⟨q, Y⟩ := Q
  have h' : X = Y := h
  subst h'
  intro n
  induction n with
  | zero => rfl
  | succ n ih => rw [q_near, q_near, ih]; rfl
theorem q_spoilt_2 {P Q : RS} (h : P.2 = Q.2) (aw i : Nat) : q_spoilt P aw i = q_spoilt Q aw i := by
  have e := q_near_2 h aw i
  obtain ⟨p, X⟩ := P
  obtain ⟨q, Y⟩ := Q
  have h' : X = Y := h
  subst h'
  unfold q_spoilt
  rw [e]
theorem q_spm_2 {P Q : RS} (h : P.2 = Q.2) (aw : Nat) : q_spm P aw = q_spm Q aw := by
  unfold q_spm
  rw [show (fun i => q_spoilt P aw i) = (fun i => q_spoilt Q aw i) from funext (q_spoilt_2 h aw), h]
theorem q_help_2 {P Q : RS} (h : P.2 = Q.2) (aw s i t : Nat) : q_help P aw s i t = q_help Q aw s i t := by
  obtain ⟨p, X⟩ := P
  obtain ⟨q, Y⟩ := Q
  have h' : X = Y := h
  subst h'
  rfl
theorem q_helpA_2 {P Q : RS} (h : P.2 = Q.2) (aw s t : Nat) : q_helpA P aw s t = q_helpA Q aw s t := by
  unfold q_helpA
  rw [show (fun i => q_help P aw s i t) = (fun i => q_help Q aw s i t) from funext (fun i => q_help_2 h aw s i t), h]
theorem q_isMet_2 {P Q : RS} (h : P.2 = Q.2) (aw t : Nat) : q_isMet P aw t = q_isMet Q aw t := by
  unfold q_isMet
  rw [q_helpA_2 h, q_spm_2 h]
  obtain ⟨p, X⟩ := P
  obtain ⟨q, Y⟩ := Q
  have h' : X = Y := h
  subst h'
  rfl
theorem q_metS_2 {P Q : RS} (h : P.2 = Q.2) (aw : Nat) : q_metS P aw = q_metS Q aw := by
  unfold q_metS
  rw [show (fun t => q_isMet P aw t) = (fun t => q_isMet Q aw t) from funext (q_isMet_2 h aw), h]
theorem q_earn_2 {P Q : RS} (h : P.2 = Q.2) (aw : Nat) : q_earn P aw = q_earn Q aw := by
  unfold q_earn
  rw [q_metS_2 h, h]
  obtain ⟨p, X⟩ := P
  obtain ⟨q, Y⟩ := Q
  have h' : X = Y := h
  subst h'
  rfl
theorem q_awk_2 {P Q : RS} (h : P.2 = Q.2) : q_awk P = q_awk Q := by
  obtain ⟨p, X⟩ := P
  obtain ⟨q, Y⟩ := Q
  have h' : X = Y := h
  subst h'
  rfl
def q_hrN (r : Nat → Int32) (n : Nat) : Nat → Nat → Int32
  | 0 => r
  | k + 1 => q_hr (q_hrN r n k) n
theorem q_hN_n (P : RS) : ∀ k, (q_hN P k).2.1 = P.2.1 ∧ (q_hN P k).2.2.1 = P.2.2.1 ∧ (q_hN P k).2.2.2.1 = P.2.2.2.1
  | 0 => ⟨rfl, rfl, rfl⟩
  | k + 1 => q_hN_n P k
theorem zRo.hN {P : RS} {r : Nat → Int32} (h : zRo P r) (h7 : P.2.1 ≤ 7) : ∀ k, zRo (q_hN P k) (q_hrN r P.2.1 k)
  | 0 => h
  | k + 1 => by
    have ih := zRo.hN h h7 k
    have e := (q_hN_n P k).1
    have h2 := ih.h1 (by rw [e]; exact h7)
    rw [e] at h2
    exact h2
theorem zRg.hN {P : RS} (h : zRg P) : ∀ k, zRg (q_hN P k)
  | 0 => h
  | k + 1 => (zRg.hN h k).h1
theorem zPi.hN {P : RS} (h : zPi P) (k : Nat) : zPi (q_hN P k) := by
  obtain ⟨e1, e2, e3⟩ := q_hN_n P k
  unfold zPi
  rw [e1, e2, e3]
  exact h
