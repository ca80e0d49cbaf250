/-! ===== the text of a road, in pure words ===== -/
def q_kind (T : TS) : Int32 := if q_isW T 11 then 0 else if q_isW T 12 then 1 else if q_isW T 13 then 2 else if q_isW T 14 then 3 else if q_isW T 15 then 4 else if q_isW T 16 then 5 else -1
def q_sort (T : TS) : Int32 := if q_isW T 1 then 0 else if q_isW T 2 then 1 else if q_isW T 3 then 2 else if q_isW T 4 then 3 else if q_isW T 5 then 4 else -1
def q_setS (P : RS) (i : Nat) (v : Int32) : RS := (P.1, P.2.1, P.2.2.1, P.2.2.2.1, rk P, rm P, rg P, upd (rs P) i v, rso P, rtm P, rne P, rpa P)
def q_setG (P : RS) (i : Nat) (v : Int32) : RS := (P.1, P.2.1, P.2.2.1, P.2.2.2.1, rk P, rm P, upd (rg P) i v, rs P, rso P, rtm P, rne P, rpa P)
def q_setK (P : RS) (i : Nat) (v : Int32) : RS := (P.1, P.2.1, P.2.2.1, P.2.2.2.1, upd (rk P) i v, rm P, rg P, rs P, rso P, rtm P, rne P, rpa P)
def q_setM (P : RS) (i : Nat) (v : Int32) : RS := (P.1, P.2.1, P.2.2.1, P.2.2.2.1, rk P, upd (rm P) i v, rg P, rs P, rso P, rtm P, rne P, rpa P)
def q_f5 (T : TS) (P : RS) (i : Nat) : Bool × TS × RS := if q_isW T 19 then (true, q_adv T, q_slp P i true) else (true, T, P)
def q_f4 (T : TS) (P : RS) (i : Nat) : Bool × TS × RS := if q_isW T 18 then (if q_isN (q_adv T) 1 9 then q_f5 (q_adv (q_adv T)) (q_setS P i (q_adv T).2.2.2.2.2) i else (false, q_adv T, P)) else q_f5 T P i
def q_f3 (T : TS) (P : RS) (i : Nat) : Bool × TS × RS := if q_isW T 17 then (if q_isN (q_adv T) 0 30 then q_f4 (q_adv (q_adv T)) (q_setG P i (q_adv T).2.2.2.2.2) i else (false, q_adv T, P)) else q_f4 T P i
def q_f2 (T : TS) (P : RS) (k : Int32) : Bool × TS × RS := if q_isW T 6 then (if q_isN (q_adv T) 0 30 then q_f3 (q_adv (q_adv T)) (q_add P k (q_adv T).2.2.2.2.2) P.2.1 else (false, q_adv T, P)) else (false, T, P)
def q_tkF (T : TS) (P : RS) : Bool × TS × RS := if q_kind T = -1 then (false, T, P) else if P.2.1 < 7 then q_f2 (q_adv T) P (q_kind T) else (false, T, P)
def q_t4 (T : TS) (P : RS) (so m ne : Int32) : Bool × TS × RS := if q_isW T 8 then (if q_isN (q_adv T) 0 99 then (true, q_adv (q_adv T), q_addT P so m ne (q_adv T).2.2.2.2.2) else (false, q_adv T, P)) else (false, T, P)
def q_t3 (T : TS) (P : RS) (so m : Int32) : Bool × TS × RS := if q_isW T 7 then (if q_isN (q_adv T) 1 99 then q_t4 (q_adv (q_adv T)) P so m (q_adv T).2.2.2.2.2 else (false, q_adv T, P)) else (false, T, P)
def q_t2 (T : TS) (P : RS) (so : Int32) : Bool × TS × RS := if q_isW T 6 then (if q_isN (q_adv T) 0 30 then q_t3 (q_adv (q_adv T)) P so (q_adv T).2.2.2.2.2 else (false, q_adv T, P)) else (false, T, P)
def q_tkT (T : TS) (P : RS) : Bool × TS × RS := if P.2.2.1 < 8 then (if 0 ≤ q_sort (q_adv T) then q_t2 (q_adv (q_adv T)) P (q_sort (q_adv T)) else (false, q_adv T, P)) else (false, T, P)
def q_tkS (T : TS) (P : RS) (c : Bool) : Bool × TS × RS := if q_isN (q_adv T) 0 (nI P.2.1 - 1) then (true, q_adv (q_adv T), q_slp P (q_adv T).2.2.2.2.2.toNatClampNeg c) else (false, q_adv T, P)
def q_item (T : TS) (P : RS) : Bool × TS × RS := if q_isW T 0 then q_tkT T P else if q_isW T 9 then q_tkS T P false else if q_isW T 10 then q_tkS T P true else q_tkF T P
def q_tell : Nat → TS → RS → Nat → Int32 × TS × RS
  | 0, T, P, _ => (-1 - nI T.2.2.2.1, T, P)
  | k + 1, T, P, it => if (q_item T P).1 then (if (q_item T P).2.1.2.2.1 = 0 then (nI (it + 1), (q_item T P).2.1, (q_item T P).2.2) else if (q_item T P).2.1.2.2.1 = 3 then q_tell k (q_adv (q_item T P).2.1) (q_item T P).2.2 (it + 1) else (-1 - nI (q_item T P).2.1.2.2.2.1, (q_item T P).2.1, (q_item T P).2.2)) else (-1 - nI (q_item T P).2.1.2.2.2.1, (q_item T P).2.1, (q_item T P).2.2)
def zTi (T : TS) : Prop := T.2.1 ≤ 120 ∧ T.2.2.2.2.1 ≤ T.2.1 ∧ T.2.2.2.1 ≤ T.2.2.2.2.1 ∧ T.2.2.1 ≤ 4
def zPi (P : RS) : Prop := P.2.1 ≤ 7 ∧ P.2.2.1 ≤ 8 ∧ P.2.2.2.1 < 128
theorem zTi.adv {T : TS} (hz : T.2.1 ≤ 120) (he : T.2.2.2.2.1 ≤ T.2.1) : zTi (q_adv T) := by
  have hs : q_st T ≤ T.2.1 := q_run_le he
  unfold zTi q_adv
  by_cases h1 : T.2.1 ≤ q_st T
  · rw [if_pos h1]
    exact ⟨hz, hs, Nat.le_refl _, Nat.le_of_ble_eq_true rfl⟩
  · rw [if_neg h1]
    by_cases h2 : q_let T.1 (q_st T)
    · rw [if_pos h2]
      exact ⟨hz, q_run_le hs, q_run_ge _ _ _, Nat.le_of_ble_eq_true rfl⟩
    · rw [if_neg h2]
      by_cases h3 : q_dig T.1 (q_st T)
      · rw [if_pos h3]
        exact ⟨hz, q_run_le hs, q_run_ge _ _ _, Nat.le_of_ble_eq_true rfl⟩
      · rw [if_neg h3]
        refine ⟨hz, by show q_st T + 1 ≤ T.2.1; omega, Nat.le_succ _, ?_⟩
        show (if T.1 (q_st T) = 59 then 3 else 4) ≤ 4
        split <;> decide
theorem zTi.a {T : TS} (h : zTi T) : zTi (q_adv T) := zTi.adv h.1 h.2.1
theorem q_adv_sz (T : TS) : (q_adv T).2.1 = T.2.1 := by
  unfold q_adv
  split
  · rfl
  · split
    · rfl
    · split <;> rfl
theorem q_adv_by (T : TS) : (q_adv T).1 = T.1 := by
  unfold q_adv
  split
  · rfl
  · split
    · rfl
    · split <;> rfl
theorem q_slp_pi {P : RS} (h : zPi P) {i : Nat} (hi : i < 7) (c : Bool) : zPi (q_slp P i c) := by
  refine ⟨h.1, h.2.1, ?_⟩
  show q_sl P.2.2.2.1 i c < 128
  unfold q_sl
  split
  · exact Nat.or_lt_two_pow (n := 7) h.2.2 (Nat.pow_lt_pow_right (by decide) hi)
  · exact Nat.lt_of_le_of_lt Nat.and_le_left h.2.2
