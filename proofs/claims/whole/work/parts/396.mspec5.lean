/-! ===== the reference's tokens, in the words of the tape ===== -/
def q_tks (T : TS) : Int32 := if T.2.2.1 = 0 then 0 else if T.2.2.1 = 1 then 1 else if T.2.2.1 = 2 then 2 else 3
/-- the number of a word after k letters -/
def q_hs (by_ : Nat → Int32) (s : Nat) : Nat → Int64
  | 0 => 0
  | k + 1 => if k < 12 then 27 * q_hs by_ s k + (by_ (s + k)).toInt64 - 96 else -1
def q_tkw (T : TS) : Int64 := if T.2.2.1 = 1 then q_hs T.1 T.2.2.2.1 (T.2.2.2.2.1 - T.2.2.2.1) else 0
def q_tkv (T : TS) : Int32 := if T.2.2.1 = 2 then T.2.2.2.2.2 else if T.2.2.1 = 0 then -1 else T.1 T.2.2.2.1
def zTk (T : TS) (x6 : Nat → Int32) (x7 : Nat) : Prop := T.1 = x6 ∧ T.2.1 = x7 ∧ x7 ≤ 120 ∧ T.2.2.2.2.1 ≤ x7 ∧ (∀ i, i < x7 → ∃ c, c < 256 ∧ x6 i = nI c) ∧
  (T.2.2.1 = 1 → ∀ i, T.2.2.2.1 ≤ i → i < T.2.2.2.2.1 → q_let x6 i = true)
theorem q_skip_in (f : Nat → Bool) (sz : Nat) : ∀ k p i, p ≤ i → i < q_skip f sz k p → f i = true
  | 0, p, i, h1, h2 => absurd h2 (by rw [q_skip]; omega)
  | k + 1, p, i, h1, h2 => by
    rw [q_skip] at h2
    by_cases h : p < sz ∧ f p = true
    · rw [if_pos h] at h2
      by_cases e : i = p
      · rw [e]; exact h.2
      · exact q_skip_in f sz k (p + 1) i (by omega) h2
    · rw [if_neg h] at h2
      omega
theorem q_run_in {f : Nat → Bool} {sz p i : Nat} (h1 : p ≤ i) (h2 : i < q_run f sz p) : f i = true := q_skip_in f sz _ p i h1 h2
theorem q_adv_0 {T : TS} (h : T.2.1 ≤ q_st T) : q_adv T = (T.1, T.2.1, 0, q_st T, q_st T, 0) := by rw [q_adv, if_pos h]
theorem q_adv_1 {T : TS} (h : q_st T < T.2.1) (h1 : q_let T.1 (q_st T) = true) : q_adv T = (T.1, T.2.1, 1, q_st T, q_run (q_let T.1) T.2.1 (q_st T), 0) := by rw [q_adv, if_neg (by omega), if_pos h1]
theorem q_adv_2 {T : TS} (h : q_st T < T.2.1) (h1 : q_let T.1 (q_st T) = false) (h2 : q_dig T.1 (q_st T) = true) : q_adv T = (T.1, T.2.1, 2, q_st T, q_run (q_dig T.1) T.2.1 (q_st T), q_num T.1 (q_st T) (q_run (q_dig T.1) T.2.1 (q_st T) - q_st T)) := by rw [q_adv, if_neg (by omega), if_neg (by rw [h1]; decide), if_pos h2]
theorem q_adv_3 {T : TS} (h : q_st T < T.2.1) (h1 : q_let T.1 (q_st T) = false) (h2 : q_dig T.1 (q_st T) = false) : q_adv T = (T.1, T.2.1, if T.1 (q_st T) = 59 then 3 else 4, q_st T, q_st T + 1, 0) := by rw [q_adv, if_neg (by omega), if_neg (by rw [h1]; decide), if_neg (by rw [h2]; decide)]
theorem zTk.adv {T : TS} {x6 : Nat → Int32} {x7 : Nat} (h : zTk T x6 x7) : zTk (q_adv T) x6 x7 := by
  obtain ⟨rfl, rfl, h120, he, hb, -⟩ := h
  refine ⟨q_adv_by T, q_adv_sz T, h120, ?_, hb, ?_⟩
  · have := (zTi.adv h120 he).2.1
    rw [q_adv_sz] at this
    exact this
  · intro h1 i hi1 hi2
    by_cases c0 : T.2.1 ≤ q_st T
    · rw [q_adv_0 c0] at h1; exact absurd (show (0 : Nat) = 1 from h1) (by decide)
    · by_cases c1 : q_let T.1 (q_st T) = true
      · rw [q_adv_1 (by omega) c1] at hi1 hi2
        exact q_run_in hi1 hi2
      · have c1 := Bool.eq_false_iff.mpr c1
        by_cases c2 : q_dig T.1 (q_st T) = true
        · rw [q_adv_2 (by omega) c1 c2] at h1; exact absurd (show (2 : Nat) = 1 from h1) (by decide)
        · have c2 := Bool.eq_false_iff.mpr c2
          rw [q_adv_3 (by omega) c1 c2] at h1
          by_cases c3 : T.1 (q_st T) = 59
          · simp [c3] at h1
          · simp [c3] at h1
/-- what a blank row, a word, a number, any other byte give -/
theorem q_tok0 {T : TS} (h : T.2.1 ≤ q_st T) : q_tks (q_adv T) = 0 ∧ (q_adv T).2.2.2.1 = q_st T ∧ (q_adv T).2.2.2.2.1 = q_st T ∧ q_tkw (q_adv T) = 0 ∧ q_tkv (q_adv T) = -1 := by
  rw [q_adv_0 h]
  exact ⟨rfl, rfl, rfl, rfl, rfl⟩
theorem q_tok1 {T : TS} (h : q_st T < T.2.1) (h1 : q_let T.1 (q_st T) = true) : q_tks (q_adv T) = 1 ∧ (q_adv T).2.2.2.1 = q_st T ∧ (q_adv T).2.2.2.2.1 = q_run (q_let T.1) T.2.1 (q_st T) ∧ q_tkw (q_adv T) = q_hs T.1 (q_st T) (q_run (q_let T.1) T.2.1 (q_st T) - q_st T) ∧ q_tkv (q_adv T) = T.1 (q_st T) := by
  rw [q_adv_1 h h1]
  exact ⟨rfl, rfl, rfl, rfl, rfl⟩
theorem q_tok2 {T : TS} (h : q_st T < T.2.1) (h1 : q_let T.1 (q_st T) = false) (h2 : q_dig T.1 (q_st T) = true) : q_tks (q_adv T) = 2 ∧ (q_adv T).2.2.2.1 = q_st T ∧ (q_adv T).2.2.2.2.1 = q_run (q_dig T.1) T.2.1 (q_st T) ∧ q_tkw (q_adv T) = 0 ∧ q_tkv (q_adv T) = q_num T.1 (q_st T) (q_run (q_dig T.1) T.2.1 (q_st T) - q_st T) := by
  rw [q_adv_2 h h1 h2]
  exact ⟨rfl, rfl, rfl, rfl, rfl⟩
theorem q_tok3 {T : TS} (h : q_st T < T.2.1) (h1 : q_let T.1 (q_st T) = false) (h2 : q_dig T.1 (q_st T) = false) : q_tks (q_adv T) = 3 ∧ (q_adv T).2.2.2.1 = q_st T ∧ (q_adv T).2.2.2.2.1 = q_st T + 1 ∧ q_tkw (q_adv T) = 0 ∧ q_tkv (q_adv T) = T.1 (q_st T) := by
  rw [q_adv_3 h h1 h2]
  by_cases c : T.1 (q_st T) = 59
  · rw [if_pos c]; exact ⟨rfl, rfl, rfl, rfl, rfl⟩
  · rw [if_neg c]; exact ⟨rfl, rfl, rfl, rfl, rfl⟩
/-- a byte of the tape or -1 -/
def q_bt_ (x6 : Nat → Int32) (x7 i : Nat) : Int32 := if i < x7 then x6 i else -1
theorem q_bt_in {x6 : Nat → Int32} {x7 i : Nat} (h : i < x7) : q_bt_ x6 x7 i = x6 i := if_pos h
theorem q_bt_out {x6 : Nat → Int32} {x7 i : Nat} (h : ¬ i < x7) : q_bt_ x6 x7 i = -1 := if_neg h
theorem q_bt_q {x6 : Nat → Int32} {x7 i : Nat} {lo hi : Int32} (hl : q_in (-1) lo hi = false) (h : q_in (q_bt_ x6 x7 i) lo hi = true) : i < x7 ∧ q_in (x6 i) lo hi = true := by
  by_cases c : i < x7
  · rw [q_bt_in c] at h; exact ⟨c, h⟩
  · rw [q_bt_out c, hl] at h; exact absurd h (by decide)
theorem q_bt_e {x6 : Nat → Int32} {x7 i : Nat} {v : Int32} (hl : ¬ (-1 : Int32) = v) (h : q_bt_ x6 x7 i = v) : i < x7 ∧ x6 i = v := by
  by_cases c : i < x7
  · rw [q_bt_in c] at h; exact ⟨c, h⟩
  · rw [q_bt_out c] at h; exact absurd h hl
theorem q_bt_ge {x6 : Nat → Int32} {x7 i : Nat} (hb : ∀ i, i < x7 → ∃ c, c < 256 ∧ x6 i = nI c) : (0 ≤ q_bt_ x6 x7 i ↔ i < x7) := by
  by_cases c : i < x7
  · rw [q_bt_in c]
    obtain ⟨b, hb1, e⟩ := hb i c
    rw [e]
    exact ⟨fun _ => c, fun _ => nI_pos' (by omega)⟩
  · rw [q_bt_out c]
    exact ⟨fun q => absurd q (by decide), fun q => absurd q c⟩
/-- one digit more -/
theorem q_dig_s {v d : Nat} (hv : v ≤ 1000) (hd : d ≤ 9) : (if nI v ≤ 99 then 10 * nI v + nI (48 + d) - 48 else 1000) = q_min 1000 (nI v * 10 + nI (48 + d) - 48) ∧ q_min 1000 (nI v * 10 + nI (48 + d) - 48) = nI (min 1000 (10 * v + d)) := by
  have e1 : nI v * 10 + nI (48 + d) - 48 = nI (10 * v + d) := by
    rw [show (10 : Int32) = nI 10 from rfl, show (48 : Int32) = nI 48 from rfl, pk_mul, nI_add, pk_sub (by omega)]
    congr 1
    omega
  have e2 : 10 * nI v + nI (48 + d) - 48 = nI (10 * v + d) := by
    rw [show (10 : Int32) = nI 10 from rfl, show (48 : Int32) = nI 48 from rfl, pk_mul, nI_add, pk_sub (by omega)]
    congr 1
    omega
  rw [e1, e2, show (1000 : Int32) = nI 1000 from rfl, show (99 : Int32) = nI 99 from rfl, zmin (by omega) (by omega)]
  refine ⟨?_, rfl⟩
  by_cases c : v ≤ 99
  · rw [if_pos (nI_le (a := v) (b := 99) c (by omega)), Nat.min_eq_right (by omega)]
  · rw [if_neg (fun q => c ((nI_leI (a := v) (b := 99) (by omega) (by omega)).mp q)), Nat.min_eq_left (by omega)]
theorem q_dig_d {x : Int32} {c : Nat} (hc : c < 256) (e : x = nI c) (h : q_in x 48 57 = true) : ∃ d, d ≤ 9 ∧ x = nI (48 + d) := by
  have k : ∀ c : Fin 256, q_in (nI c.val) 48 57 = true → 48 ≤ c.val ∧ c.val ≤ 57 := by decide +kernel
  rw [e] at h
  have : 48 ≤ c ∧ c ≤ 57 := k ⟨c, hc⟩ h
  exact ⟨c - 48, by omega, by rw [e]; congr 1; omega⟩
theorem q_let_d {x : Int32} {c : Nat} (hc : c < 256) (e : x = nI c) (h : q_in x 97 122 = true) : ∃ d, 1 ≤ d ∧ d ≤ 26 ∧ x = nI (96 + d) := by
  have k : ∀ c : Fin 256, q_in (nI c.val) 97 122 = true → 97 ≤ c.val ∧ c.val ≤ 122 := by decide +kernel
  rw [e] at h
  have : 97 ≤ c ∧ c ≤ 122 := k ⟨c, hc⟩ h
  exact ⟨c - 96, by omega, by omega, by rw [e]; congr 1; omega⟩
theorem q_let_dig {x : Int32} (h : q_in x 97 122 = true) : q_in x 48 57 = false := by
  unfold q_in at *
  simp only [Bool.and_eq_true, Bool.not_eq_true', decide_eq_false_iff_not] at h
  have : (57 : Int32) < x := by
    have h1 := Int32.not_lt.mp h.1
    exact Int32.lt_of_lt_of_le (by decide) h1
  rw [decide_eq_true this]
  simp
/-! the number of a word tells the word -/
def q_nh (d : Nat → Nat) : Nat → Nat
  | 0 => 0
  | k + 1 => 27 * q_nh d k + d k
theorem q_nh_inj {d e : Nat → Nat} : ∀ (n m : Nat), (∀ k, k < n → 1 ≤ d k ∧ d k ≤ 26) → (∀ k, k < m → 1 ≤ e k ∧ e k ≤ 26) → q_nh d n = q_nh e m → n = m ∧ ∀ k, k < n → d k = e k
  | 0, 0, _, _, _ => ⟨rfl, fun k hk => absurd hk (Nat.not_lt_zero k)⟩
  | 0, m + 1, _, he, h => by
    have := he m (by omega)
    simp only [q_nh] at h
    omega
  | n + 1, 0, hd, _, h => by
    have := hd n (by omega)
    simp only [q_nh] at h
    omega
  | n + 1, m + 1, hd, he, h => by
    have h1 := hd n (by omega)
    have h2 := he m (by omega)
    simp only [q_nh] at h
    have e1 : d n = e m := by omega
    have e2 : q_nh d n = q_nh e m := by omega
    obtain ⟨e3, e4⟩ := q_nh_inj n m (fun k hk => hd k (by omega)) (fun k hk => he k (by omega)) e2
    refine ⟨by omega, fun k hk => ?_⟩
    by_cases q : k = n
    · rw [q, e1, e3]
    · exact e4 k (by omega)
theorem q_nh_lt {d : Nat → Nat} : ∀ (n : Nat), (∀ k, k < n → d k ≤ 26) → q_nh d n < 27 ^ n
  | 0, _ => by rw [q_nh]; decide
  | n + 1, h => by
    have ih := q_nh_lt n (fun k hk => h k (by omega))
    have := h n (by omega)
    rw [q_nh, Nat.pow_succ]
    omega
theorem q_hs_big (by_ : Nat → Int32) (s : Nat) {k : Nat} (h : 12 < k) : q_hs by_ s k = -1 := by
  obtain ⟨j, rfl⟩ : ∃ j, k = j + 1 := ⟨k - 1, by omega⟩
  rw [q_hs, if_neg (by omega)]
theorem q_hs_n {by_ : Nat → Int32} {s : Nat} {d : Nat → Nat} : ∀ (k : Nat), k ≤ 12 → (∀ j, j < k → 1 ≤ d j ∧ d j ≤ 26 ∧ by_ (s + j) = nI (96 + d j)) → q_hs by_ s k = Int64.ofInt (q_nh d k : Nat)
  | 0, _, _ => rfl
  | k + 1, hk, h => by
    have ih := q_hs_n k (by omega) (fun j hj => h j (by omega))
    obtain ⟨h1, h2, h3⟩ := h k (by omega)
    rw [q_hs, if_pos (by omega), ih, h3, nI_i, q_i64 (by omega) (by omega), show (27 : Int64) = Int64.ofInt 27 by decide, show (96 : Int64) = Int64.ofInt 96 by decide, ← Int64.ofInt_mul, ← Int64.ofInt_add, ← Int64.ofInt_sub]
    congr 1
    rw [q_nh]
    omega
/-- the letters of a text -/
def zdg (i k : Nat) : Nat := (zch i k).toNatClampNeg - 96
def zwd (i : Nat) : Int64 := Int64.ofInt (q_nh (zdg i) (zlen.getD i 0) : Nat)
theorem zdg_ok {i k : Nat} (hi : i < 20) (hk : k < zlen.getD i 0) : 1 ≤ zdg i k ∧ zdg i k ≤ 26 ∧ zch i k = nI (96 + zdg i k) := by
  have h : ∀ i : Fin 20, ∀ k : Fin 6, k.val < zlen.getD i.val 0 → 1 ≤ zdg i.val k.val ∧ zdg i.val k.val ≤ 26 ∧ zch i.val k.val = nI (96 + zdg i.val k.val) := by decide +kernel
  have := zlen_lt hi
  exact h ⟨i, hi⟩ ⟨k, by omega⟩ hk
theorem q_i64_inj {a b : Nat} (ha : a < 2 ^ 60) (hb : b < 2 ^ 60) (h : Int64.ofInt (a : Int) = Int64.ofInt (b : Int)) : a = b := by
  have h2 := congrArg Int64.toInt h
  rw [Int64.toInt_ofInt_of_le (by omega) (by omega), Int64.toInt_ofInt_of_le (by omega) (by omega)] at h2
  omega
theorem q_i64_neg {a : Nat} (ha : a < 2 ^ 60) : ¬ (-1 : Int64) = Int64.ofInt (a : Int) := by
  intro h
  have h2 := congrArg Int64.toInt h
  rw [Int64.toInt_ofInt_of_le (by omega) (by omega), show (-1 : Int64).toInt = -1 by decide] at h2
  omega
theorem zwd_lt {i : Nat} (hi : i < 20) : q_nh (zdg i) (zlen.getD i 0) < 2 ^ 60 := by
  have h := zlen_lt hi
  have h2 := q_nh_lt (d := zdg i) (zlen.getD i 0) (fun k hk => (zdg_ok hi hk).2.1)
  have h3 : 27 ^ zlen.getD i 0 ≤ 27 ^ 6 := Nat.pow_le_pow_right (by decide) h
  have h4 : 27 ^ 6 < 2 ^ 60 := by decide
  omega
theorem q_isW_m {T : TS} {x6 : Nat → Int32} {x7 i : Nat} (hi : i < 20) (h : zTk T x6 x7) : q_isW T i = (decide (q_tks T = 1) && decide (q_tkw T = zwd i)) := by
  obtain ⟨rfl, rfl, h120, he, hb, hl⟩ := h
  by_cases h1 : T.2.2.1 = 1
  · have e1 : q_tks T = 1 := by unfold q_tks; rw [if_neg (by omega), if_pos h1]
    have e2 : q_tkw T = q_hs T.1 T.2.2.2.1 (T.2.2.2.2.1 - T.2.2.2.1) := by unfold q_tkw; rw [if_pos h1]
    have hl := hl h1
    unfold q_isW
    rw [decide_eq_true h1, e1, e2, decide_eq_true rfl, Bool.true_and, Bool.true_and]
    have hd : ∃ d : Nat → Nat, ∀ j, j < T.2.2.2.2.1 - T.2.2.2.1 → 1 ≤ d j ∧ d j ≤ 26 ∧ T.1 (T.2.2.2.1 + j) = nI (96 + d j) := by
      refine ⟨fun j => (T.1 (T.2.2.2.1 + j)).toNatClampNeg - 96, fun j hj => ?_⟩
      obtain ⟨c, hc, ec⟩ := hb (T.2.2.2.1 + j) (by omega)
      obtain ⟨d, hd1, hd2, ed⟩ := q_let_d hc ec (hl (T.2.2.2.1 + j) (by omega) (by omega))
      have : (T.1 (T.2.2.2.1 + j)).toNatClampNeg = 96 + d := by rw [ed, nI_clamp (by omega)]
      dsimp only
      rw [this, ed]
      exact ⟨by omega, by omega, by congr 1; omega⟩
    obtain ⟨d, hd⟩ := hd
    generalize hk : T.2.2.2.2.1 - T.2.2.2.1 = k at hd
    have hlen := zlen_lt hi
    by_cases h12 : k ≤ 12
    · have hh := q_hs_n k h12 hd
      have hlt : q_nh d k < 2 ^ 60 := by
        have h2 := q_nh_lt (d := d) k (fun j hj => (hd j hj).2.1)
        have h3 : 27 ^ k ≤ 27 ^ 12 := Nat.pow_le_pow_right (by decide) h12
        have h4 : 27 ^ 12 < 2 ^ 60 := by decide
        omega
      by_cases hc : k = zlen.getD i 0 ∧ q_allb (fun k => decide (T.1 (T.2.2.2.1 + k) = zch i k)) (zlen.getD i 0) = true
      · rw [decide_eq_true hc.1, hc.2, Bool.true_and]
        symm
        apply decide_eq_true
        rw [hh, zwd]
        congr 2
        have hq : ∀ n, n ≤ k → q_nh d n = q_nh (zdg i) n := by
          intro n hn
          induction n with
          | zero => rfl
          | succ n ih =>
            rw [q_nh, q_nh, ih (by omega)]
            have e3 : T.1 (T.2.2.2.1 + n) = zch i n := by
              rcases Bool.eq_false_or_eq_true (decide (T.1 (T.2.2.2.1 + n) = zch i n)) with q | q
              · exact of_decide_eq_true q
              · have := q_allb_f (f := fun k => decide (T.1 (T.2.2.2.1 + k) = zch i k)) (j := n) q (zlen.getD i 0) (by omega)
                rw [this] at hc
                exact absurd hc.2 (by decide)
            have e4 := (hd n (by omega)).2.2
            have e5 := (zdg_ok hi (show n < zlen.getD i 0 by omega))
            have e6 : (96 + d n) = 96 + zdg i n := (nI_eq (by have := (hd n (by omega)).2.1; omega) (by have := e5.2.1; omega)).mp (by rw [← e4, e3]; exact e5.2.2)
            omega
        rw [hq k (Nat.le_refl _), hc.1]
      · have e7 : (decide (k = zlen.getD i 0) && q_allb (fun k => decide (T.1 (T.2.2.2.1 + k) = zch i k)) (zlen.getD i 0)) = false := by
          rcases Bool.eq_false_or_eq_true (decide (k = zlen.getD i 0) && q_allb (fun k => decide (T.1 (T.2.2.2.1 + k) = zch i k)) (zlen.getD i 0)) with q | q
          · rw [Bool.and_eq_true] at q
            exact absurd ⟨of_decide_eq_true q.1, q.2⟩ hc
          · exact q
        rw [e7]
        symm
        apply decide_eq_false
        intro q
        rw [hh, zwd] at q
        have q2 := q_i64_inj hlt (zwd_lt hi) q
        obtain ⟨q3, q4⟩ := q_nh_inj k (zlen.getD i 0) (fun j hj => ⟨(hd j hj).1, (hd j hj).2.1⟩) (fun j hj => ⟨(zdg_ok hi hj).1, (zdg_ok hi hj).2.1⟩) q2
        apply hc
        refine ⟨q3, q_allb_t (fun j hj => decide_eq_true ?_)⟩
        rw [(hd j (by omega)).2.2, (zdg_ok hi hj).2.2, q4 j (by omega)]
    · rw [q_hs_big _ _ (by omega), decide_eq_false (show ¬ k = zlen.getD i 0 by omega), Bool.false_and]
      symm
      apply decide_eq_false
      intro q
      exact q_i64_neg (zwd_lt hi) q
  · have e1 : ¬ q_tks T = 1 := by
      unfold q_tks
      rw [if_neg h1]
      split
      · decide
      · split <;> decide
    unfold q_isW
    rw [decide_eq_false h1, decide_eq_false e1]
    rfl
theorem q_isN_m {T : TS} {lo hi : Int32} : q_isN T lo hi = (decide (q_tks T = 2) && q_in (q_tkv T) lo hi) := by
  by_cases h2 : T.2.2.1 = 2
  · have e1 : q_tks T = 2 := by unfold q_tks; rw [if_neg (by omega), if_neg (by omega), if_pos h2]
    have e2 : q_tkv T = T.2.2.2.2.2 := by unfold q_tkv; rw [if_pos h2]
    unfold q_isN
    rw [decide_eq_true h2, decide_eq_true e1, e2]
  · have e1 : ¬ q_tks T = 2 := by
      unfold q_tks
      split
      · decide
      · split
        · decide
        · decide
    unfold q_isN
    rw [decide_eq_false h2, decide_eq_false e1, Bool.false_and, Bool.false_and]
/-! a word that may or must stand, and its number -/
def w_T (G : Bool) (T : TS) (i : Nat) (lo hi : Int32) : TS := if (G && q_isW T i) = true then (if q_isN (q_adv T) lo hi = true then q_adv (q_adv T) else q_adv T) else T
def w_V (G : Bool) (T : TS) (i : Nat) (o : Int32) : Int32 := if (G && q_isW T i) = true then q_tkv (q_adv T) else o
def w_G (G : Bool) (T : TS) (i : Nat) (lo hi : Int32) (o : Bool) : Bool := if (G && q_isW T i) = true then q_isN (q_adv T) lo hi else o
theorem zTk.wT {T : TS} {x6 : Nat → Int32} {x7 : Nat} (h : zTk T x6 x7) (G : Bool) (i : Nat) (lo hi : Int32) : zTk (w_T G T i lo hi) x6 x7 := by
  unfold w_T
  split
  · split
    · exact h.adv.adv
    · exact h.adv
  · exact h
def w_n (G : Bool) (T : TS) (lo hi : Int32) : TS := if (G && q_isN T lo hi) = true then q_adv T else T
theorem zTk.wn {T : TS} {x6 : Nat → Int32} {x7 : Nat} (h : zTk T x6 x7) (G : Bool) (lo hi : Int32) : zTk (w_n G T lo hi) x6 x7 := by
  unfold w_n
  split
  · exact h.adv
  · exact h
