def q_zp (x y c k : Nat) : Nat := if x ≤ y then min (x + k * c) y else max (x - k * c) y
theorem q_zp_0 (x y c : Nat) : q_zp x y c 0 = x := by
  unfold q_zp
  rw [Nat.zero_mul]
  split <;> omega
theorem q_zp_s (x y c k : Nat) : q_zp (q_zp x y c k) y c 1 = q_zp x y c (k + 1) := by
  unfold q_zp
  rw [Nat.succ_mul k c, Nat.one_mul]
  generalize k * c = z
  by_cases h : x ≤ y
  · rw [if_pos h, if_pos h, if_pos (by omega)]; omega
  · rw [if_neg h, if_neg h]
    by_cases h2 : max (x - z) y ≤ y
    · rw [if_pos h2]; omega
    · rw [if_neg h2]; omega
theorem q_zp_lt {x y c k : Nat} (hx : x < 31) (hy : y < 31) : q_zp x y c k < 31 := by
  unfold q_zp
  split <;> omega
theorem nI_i (n : Nat) : nI n = Int32.ofInt n := Int32.ofInt_eq_ofNat.symm
theorem q_min_i {a b : Int} (h1 : -1000 ≤ a) (h2 : a ≤ 1000) (h3 : -1000 ≤ b) (h4 : b ≤ 1000) : q_min (Int32.ofInt a) (Int32.ofInt b) = Int32.ofInt (min a b) := by
  unfold q_min
  have b1 : Int32.minValue.toInt = -2147483648 := by decide
  have b2 : Int32.maxValue.toInt = 2147483647 := by decide
  have e := Int32.ofInt_lt_iff_lt (a := b) (b := a) (by omega) (by omega) (by omega) (by omega)
  by_cases q : b < a
  · rw [if_pos (e.mpr q)]; congr 1; omega
  · rw [if_neg (fun z => q (e.mp z))]; congr 1; omega
theorem q_max_i {a b : Int} (h1 : -1000 ≤ a) (h2 : a ≤ 1000) (h3 : -1000 ≤ b) (h4 : b ≤ 1000) : q_max (Int32.ofInt a) (Int32.ofInt b) = Int32.ofInt (max a b) := by
  unfold q_max
  have b1 : Int32.minValue.toInt = -2147483648 := by decide
  have b2 : Int32.maxValue.toInt = 2147483647 := by decide
  have e := Int32.ofInt_lt_iff_lt (a := a) (b := b) (by omega) (by omega) (by omega) (by omega)
  by_cases q : a < b
  · rw [if_pos (e.mpr q)]; congr 1; omega
  · rw [if_neg (fun z => q (e.mp z))]; congr 1; omega
theorem q_zp_i {x y c k : Nat} (hx : x < 31) (hy : y < 31) (hz : k * c < 1000) : nI x + q_max (-(nI k * nI c)) (q_min (nI k * nI c) (nI y - nI x)) = nI (q_zp x y c k) := by
  rw [pk_mul]
  unfold q_zp
  generalize k * c = z at hz
  rw [nI_i x, nI_i y, nI_i z, ← Int32.ofInt_sub, q_min_i (by omega) (by omega) (by omega) (by omega), ← Int32.ofInt_neg, q_max_i (by omega) (by omega) (by omega) (by omega), ← Int32.ofInt_add, nI_i]
  congr 1
  split <;> omega
theorem q_pace_n (k : Int32) : ∃ c, c ≤ 6 ∧ q_pace k = nI c := by
  rcases q_pace3 k with e | e | e
  · exact ⟨3, by decide, e⟩
  · exact ⟨6, by decide, e⟩
  · exact ⟨1, by decide, e⟩
theorem q_hN_f (P : RS) : ∀ k, rk (q_hN P k) = rk P ∧ rg (q_hN P k) = rg P ∧ rs (q_hN P k) = rs P ∧ rso (q_hN P k) = rso P ∧ rtm (q_hN P k) = rtm P ∧ rne (q_hN P k) = rne P ∧ rpa (q_hN P k) = rpa P
  | 0 => ⟨rfl, rfl, rfl, rfl, rfl, rfl, rfl⟩
  | k + 1 => q_hN_f P k
theorem q_hN_m {P : RS} {p x y c : Nat} (hp : p < P.2.1) (hs : ¬ P.2.2.2.1.testBit p = true) (hx : x < 31) (hy : y < 31) (hc : c ≤ 6) (ex : rm P p = nI x) (ey : rg P p = nI y) (ec : q_pace (rk P p) = nI c) : ∀ k, rm (q_hN P k) p = nI (q_zp x y c k)
  | 0 => by rw [q_zp_0]; exact ex
  | k + 1 => by
    have ih := q_hN_m hp hs hx hy hc ex ey ec k
    obtain ⟨n1, n2, n3⟩ := q_hN_n P k
    obtain ⟨f1, f2, f3⟩ := q_hN_f P k
    show q_goM (q_hN P k) 1 (q_hN P k).2.1 p = _
    rw [q_goM_at, n1, n3, if_pos hp, if_neg hs, f1, f2, ih, ey, ec, show (1 : Int32) = nI 1 from rfl, q_zp_i (q_zp_lt hx hy) hy (by omega), q_zp_s]
theorem q_hN_m0 {P : RS} {p : Nat} (hp : ¬ p < P.2.1 ∨ P.2.2.2.1.testBit p = true) : ∀ k, rm (q_hN P k) p = rm P p
  | 0 => rfl
  | k + 1 => by
    have ih := q_hN_m0 hp k
    obtain ⟨n1, n2, n3⟩ := q_hN_n P k
    show q_goM (q_hN P k) 1 (q_hN P k).2.1 p = _
    rw [q_goM_at, n1, n3]
    rcases hp with h | h
    · rw [if_neg h, ih]
    · rw [if_pos h, ih, ite_self]
theorem q_hN_go {P : RS} (h : zRg P) {k : Nat} (hk : k ≤ 61) : (q_hN P k).2 = (q_go P (nI k)).2 := by
  obtain ⟨n1, n2, n3⟩ := q_hN_n P k
  obtain ⟨f1, f2, f3, f4, f5, f6, f7⟩ := q_hN_f P k
  have em : rm (q_hN P k) = q_goM P (nI k) P.2.1 := by
    funext p
    rw [q_goM_at]
    by_cases hp : p < P.2.1
    · rw [if_pos hp]
      by_cases hs : P.2.2.2.1.testBit p = true
      · rw [if_pos hs]; exact q_hN_m0 (Or.inr hs) k
      · rw [if_neg hs]
        obtain ⟨x, hx, ex⟩ := (h.2.2.1 p hp).2.1
        obtain ⟨y, hy, ey⟩ := (h.2.2.1 p hp).2.2.1
        obtain ⟨c, hc, ec⟩ := q_pace_n (rk P p)
        have hm : k * c ≤ 61 * 6 := Nat.mul_le_mul hk hc
        rw [q_hN_m hp hs hx hy hc ex ey ec k, ex, ey, ec, q_zp_i hx hy (by omega)]
    · rw [if_neg hp]; exact q_hN_m0 (Or.inl hp) k
  generalize q_hN P k = Q at *
  obtain ⟨q1, q2, q3, q4, q5, q6, q7, q8, q9, q10, q11, q12⟩ := Q
  have n1' : q2 = P.2.1 := n1
  have n2' : q3 = P.2.2.1 := n2
  have n3' : q4 = P.2.2.2.1 := n3
  have f1' : q5 = rk P := f1
  have em' : q6 = q_goM P (nI k) P.2.1 := em
  have f2' : q7 = rg P := f2
  have f3' : q8 = rs P := f3
  have f4' : q9 = rso P := f4
  have f5' : q10 = rtm P := f5
  have f6' : q11 = rne P := f6
  have f7' : q12 = rpa P := f7
  rw [n1', n2', n3', f1', em', f2', f3', f4', f5', f6', f7']
  rfl
theorem q_hrN_1 (r : Nat → Int32) (n : Nat) : ∀ k, q_hrN r n k 1 = r 1
  | 0 => rfl
  | k + 1 => (q_hr_1 _ n).trans (q_hrN_1 r n k)
theorem zRo.go {P : RS} {r : Nat → Int32} (h : zRo P r) (hG : zRg P) (h7 : P.2.1 ≤ 7) {k : Nat} (hk : k ≤ 61) : zRo (P.1, (q_go P (nI k)).2) (q_hrN r P.2.1 k) := by
  have h2 := h.hN h7 k
  have e : q_hN P k = (P.1, (q_go P (nI k)).2) := by
    rw [← q_hN_go hG hk]
    have : (q_hN P k).1 = P.1 := by
      induction k with
      | zero => rfl
      | succ k ih => exact ih (by omega) (h.hN h7 k)
    rw [← this]
  rw [e] at h2
  exact h2
theorem zRo.hour {P : RS} {r : Nat → Int32} (h : zRo P r) (v : Int32) : zRo (v, P.2) (upd r 0 v) := by
  refine ⟨upd_eq _ _ _, (upd_ne (by omega)).trans h.2.1, (upd_ne (by omega)).trans h.2.2.1, fun q hq => ⟨(upd_ne (by omega)).trans (h.2.2.2.1 q hq).1, (upd_ne (by omega)).trans (h.2.2.2.1 q hq).2.1, (upd_ne (by omega)).trans (h.2.2.2.1 q hq).2.2.1, (upd_ne (by omega)).trans (h.2.2.2.1 q hq).2.2.2.1, (upd_ne (by omega)).trans (h.2.2.2.1 q hq).2.2.2.2⟩, fun t ht => ⟨(upd_ne (by omega)).trans (h.2.2.2.2 t ht).1, (upd_ne (by omega)).trans (h.2.2.2.2 t ht).2.1, (upd_ne (by omega)).trans (h.2.2.2.2 t ht).2.2.1, (upd_ne (by omega)).trans (h.2.2.2.2 t ht).2.2.2⟩⟩
