/-! ===== sheets and texts, in pure words ===== -/
def q_nar (bits : Int32) (v : Int64) : Int64 := if bits = 8 then v.toInt32.toInt8.toInt32.toInt64 else if bits = 16 then v.toInt32.toInt16.toInt32.toInt64 else v
def q_holds (S : SS) (fr n : Int32) : Bool := !decide (fr < 0) && (!decide (n < 0) && !decide (0 < lg_cmp (fr.toInt64 + n.toInt64) (nI S.2.1).toInt64))
def q_nz (S : SS) : Nat := q_mask (fun i => decide (¬ lg_cmp (S.2.2 i) 0 = 0)) (min S.2.1 8)
def q_beg (bits : Int32) (n : Nat) : SS := (bits, if bits = 0 then 0 else n, fun _ => 0)
def q_allb (f : Nat → Bool) : Nat → Bool
  | 0 => true
  | j + 1 => q_allb f j && f j
def zch (i k : Nat) : Int32 := (zbyt.getD i []).getD k 0 &&& 255
def q_skip (f : Nat → Bool) (sz : Nat) : Nat → Nat → Nat
  | 0, p => p
  | k + 1, p => if p < sz ∧ f p = true then q_skip f sz k (p + 1) else p
/-- where the longest row from p on ends -/
def q_run (f : Nat → Bool) (sz p : Nat) : Nat := q_skip f sz (sz - p) p
def q_num (by_ : Nat → Int32) (s : Nat) : Nat → Int32
  | 0 => 0
  | k + 1 => q_min 1000 (q_num by_ s k * 10 + by_ (s + k) - 48)
def q_let (by_ : Nat → Int32) (p : Nat) : Bool := q_in (by_ p) 97 122
def q_dig (by_ : Nat → Int32) (p : Nat) : Bool := q_in (by_ p) 48 57
def q_blank (by_ : Nat → Int32) (p : Nat) : Bool := decide (by_ p = 32)
def q_st (T : TS) : Nat := q_run (q_blank T.1) T.2.1 T.2.2.2.2.1
def q_adv (T : TS) : TS :=
  if T.2.1 ≤ q_st T then (T.1, T.2.1, 0, q_st T, q_st T, 0)
  else if q_let T.1 (q_st T) then (T.1, T.2.1, 1, q_st T, q_run (q_let T.1) T.2.1 (q_st T), 0)
  else if q_dig T.1 (q_st T) then (T.1, T.2.1, 2, q_st T, q_run (q_dig T.1) T.2.1 (q_st T), q_num T.1 (q_st T) (q_run (q_dig T.1) T.2.1 (q_st T) - q_st T))
  else (T.1, T.2.1, if T.1 (q_st T) = 59 then 3 else 4, q_st T, q_st T + 1, 0)
def q_isW (T : TS) (i : Nat) : Bool := decide (T.2.2.1 = 1) && (decide (T.2.2.2.2.1 - T.2.2.2.1 = zlen.getD i 0) && q_allb (fun k => decide (T.1 (T.2.2.2.1 + k) = zch i k)) (zlen.getD i 0))
def q_isN (T : TS) (lo hi : Int32) : Bool := decide (T.2.2.1 = 2) && q_in T.2.2.2.2.2 lo hi
def q_app (f : Nat → Int32) (sz : Nat) (x : Int32) : Nat → Nat → Int32
  | 0 => f
  | k + 1 => q_app (upd f sz (((x.toUInt32 >>> ((8 * nI k : Int32).toUInt32 &&& Int32.toUInt32 31)).toInt32) &&& 255)) (sz + 1) x k
theorem q_skip_ge (f : Nat → Bool) (sz : Nat) : ∀ k p, p ≤ q_skip f sz k p
  | 0, p => Nat.le_refl p
  | k + 1, p => by
    unfold q_skip
    by_cases h : p < sz ∧ f p = true
    · rw [if_pos h]
      exact Nat.le_trans (Nat.le_succ p) (q_skip_ge f sz k (p + 1))
    · rw [if_neg h]
      exact Nat.le_refl p
theorem q_run_ge (f : Nat → Bool) (sz p : Nat) : p ≤ q_run f sz p := q_skip_ge f sz _ p
theorem q_run_stop {f : Nat → Bool} {sz p : Nat} (h : ¬ (p < sz ∧ f p = true)) : q_run f sz p = p := by
  unfold q_run
  cases e : sz - p with
  | zero => rfl
  | succ k => rw [q_skip, if_neg h]
theorem q_run_go {f : Nat → Bool} {sz p : Nat} (h1 : p < sz) (h2 : f p = true) : q_run f sz p = q_run f sz (p + 1) := by
  unfold q_run
  rw [show sz - p = (sz - (p + 1)) + 1 by omega, q_skip, if_pos ⟨h1, h2⟩]
theorem q_skip_le (f : Nat → Bool) (sz : Nat) : ∀ k p, p ≤ sz → q_skip f sz k p ≤ sz
  | 0, p, h => h
  | k + 1, p, h => by
    unfold q_skip
    by_cases c : p < sz ∧ f p = true
    · rw [if_pos c]
      exact q_skip_le f sz k (p + 1) c.1
    · rw [if_neg c]
      exact h
theorem q_run_le {f : Nat → Bool} {sz p : Nat} (h : p ≤ sz) : q_run f sz p ≤ sz := q_skip_le f sz _ p h
theorem zmin8 {n : Nat} (h : n < 2 ^ 31) : q_min (nI n) 8 = nI (min n 8) := by
  have e8 : (8 : Int32) = nI 8 := rfl
  unfold q_min
  rw [e8]
  by_cases c : 8 < n
  · rw [if_pos (nI_lt c h), Nat.min_eq_right (by omega)]
  · rw [if_neg (nI_nlt (by omega) (by decide)), Nat.min_eq_left (by omega)]
theorem zlen_lt {i : Nat} (hi : i < 20) : zlen.getD i 0 ≤ 6 := by
  have h : ∀ i : Fin 20, zlen.getD i.val 0 ≤ 6 := by decide
  exact h ⟨i, hi⟩
theorem zch_c (i k : Nat) : (((zbyt.getD i []).getD k 0 &&& 255).toUInt32 % 65536).toInt32 = zch i k := sc_c2 _
theorem zch_n (i k : Nat) : narrow .char (.int (zch i k)) = .int (zch i k) := sc_nar _
theorem q_allb_t {f : Nat → Bool} {n : Nat} (h : ∀ k, k < n → f k = true) : q_allb f n = true := by
  induction n with
  | zero => rfl
  | succ n ih => rw [q_allb, ih (fun k hk => h k (by omega)), h n (by omega)]; rfl
theorem q_allb_f {f : Nat → Bool} {j : Nat} (h : f j = false) : ∀ n, j < n → q_allb f n = false := by
  intro n hn
  induction n with
  | zero => omega
  | succ n ih =>
    rw [q_allb]
    by_cases e : j = n
    · rw [← e, h]; simp
    · rw [ih (by omega)]; rfl
