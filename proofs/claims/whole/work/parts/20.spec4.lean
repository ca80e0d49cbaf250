/-! ===== what each call answers, in pure words: the answer, and what it leaves ===== -/
def q_tel (f : Nat → Int32) (k : Nat) : Nat → Int32 := upd f k (f k + 1)
def q_ix (i : Int32) (n : Nat) : Bool := q_in i 0 (nI n - 1)
theorem q_ix_t {j n : Nat} (hj : j < n) (hn : n ≤ 8) : q_ix (nI j) n = true := by
  unfold q_ix q_in
  rw [zsub1 (by omega), decide_eq_false (nI_pos (by omega)), decide_eq_false (nI_nlt (by omega) (by omega))]
  rfl
theorem q_ix_or (i : Int32) {n : Nat} (hn : n ≤ 8) : (∃ j, j < n ∧ i = nI j) ∨ q_ix i n = false := by
  by_cases h : q_ix i n = true
  · left
    unfold q_ix q_in at h
    simp only [Bool.and_eq_true, Bool.not_eq_true', decide_eq_false_iff_not] at h
    obtain ⟨j, hj, e⟩ := nI_of h.1
    refine ⟨j, ?_, e⟩
    have h2 := h.2
    rw [e] at h2
    rcases Nat.eq_zero_or_pos n with rfl | hp
    · exfalso
      apply h2
      rw [show nI 0 - 1 = (-1 : Int32) by decide, Int32.lt_iff_toInt_lt, nI_toInt hj]
      have : (-1 : Int32).toInt = -1 := by decide
      omega
    · rw [zsub1 hp] at h2
      rcases Nat.lt_or_ge j n with q | q
      · exact q
      · exact absurd (nI_lt (a := n - 1) (b := j) (by omega) hj) h2
  · right
    exact Bool.eq_false_iff.mpr h
def q_may (w v : Int32) : Bool := if w = 1 then q_in v 0 30 else if w = 2 then q_in v 0 30 else if w = 3 then q_in v 1 9 else if w = 4 then q_in v 0 1 else false
abbrev xF : Type := Nat → Int32
def p_fellow (f : xF) (P : RS) (k m : Int32) : Int32 × xF × RS := if q_in k 0 5 && q_in m 0 30 then (if P.2.1 < 7 then (nI P.2.1, f, q_add P k m) else (-1000000002, q_tel f 1, P)) else (-1000000001, q_tel f 0, P)
def p_of (f : xF) (P : RS) (i w : Int32) : Int32 × xF :=
  if q_ix i P.2.1 then (if w = 0 then (rk P i.toNatClampNeg, f) else if w = 1 then (rm P i.toNatClampNeg, f) else if w = 2 then (rg P i.toNatClampNeg, f) else if w = 3 then (rs P i.toNatClampNeg, f) else if w = 4 then (zB (P.2.2.2.1.testBit i.toNatClampNeg), f) else if w = 5 then (zB (q_spoilt P (q_awk P) i.toNatClampNeg), f) else if w = 6 then (q_pace (rk P i.toNatClampNeg), f) else if w = 7 then (q_htg P i.toNatClampNeg, f) else (-1000000001, q_tel f 0)) else (-1000000001, q_tel f 0)
def p_set (f : xF) (P : RS) (i w v : Int32) : Int32 × xF × RS :=
  if q_ix i P.2.1 && q_may w v then (if w = 4 then (zB (P.2.2.2.1.testBit i.toNatClampNeg), f, q_slp P i.toNatClampNeg (decide (v = 1))) else if w = 1 then (rm P i.toNatClampNeg, f, q_setM P i.toNatClampNeg v) else if w = 2 then (rg P i.toNatClampNeg, f, q_setG P i.toNatClampNeg v) else (rs P i.toNatClampNeg, f, q_setS P i.toNatClampNeg v)) else (-1000000001, q_tel f 0, P)
def p_turn (f : xF) (P : RS) (i k : Int32) : Int32 × xF × RS := if q_ix i P.2.1 && q_in k 0 5 then (rk P i.toNatClampNeg, f, q_setK P i.toNatClampNeg k) else (-1000000001, q_tel f 0, P)
def p_as (f : xF) (P : RS) (i k : Int32) : Int32 × xF := if q_ix i P.2.1 && q_in k 0 5 then (if q_of (rk P i.toNatClampNeg) k then (rs P i.toNatClampNeg, f) else (-1000000003, q_tel f 2)) else (-1000000001, q_tel f 0)
def p_does (f : xF) (P : RS) (i so : Int32) : Int32 × xF := if q_ix i P.2.1 && q_in so 0 4 then (q_work (rk P i.toNatClampNeg) so (rs P i.toNatClampNeg), f) else (-1000000001, q_tel f 0)
def p_task (f : xF) (P : RS) (so m ne pa : Int32) : Int32 × xF × RS := if q_in so 0 4 && (q_in m 0 30 && (q_in ne 1 99 && q_in pa 0 99)) then (if P.2.2.1 < 8 then (nI P.2.2.1, f, q_addT P so m ne pa) else (-1000000002, q_tel f 1, P)) else (-1000000001, q_tel f 0, P)
def p_taskOf (f : xF) (P : RS) (t w : Int32) : Int32 × xF :=
  if q_ix t P.2.2.1 then (if w = 0 then (rso P t.toNatClampNeg, f) else if w = 1 then (rtm P t.toNatClampNeg, f) else if w = 2 then (rne P t.toNatClampNeg, f) else if w = 3 then (rpa P t.toNatClampNeg, f) else if w = 4 then (q_helpA P (q_awk P) (q_spm P (q_awk P)) t.toNatClampNeg, f) else if w = 5 then (zB (q_isMet P (q_awk P) t.toNatClampNeg), f) else if w = 6 then (nI (q_helpers P (q_awk P) (q_spm P (q_awk P)) t.toNatClampNeg), f) else (-1000000001, q_tel f 0)) else (-1000000001, q_tel f 0)
def p_helps (f : xF) (P : RS) (i t : Int32) : Int32 × xF := if q_ix i P.2.1 && q_ix t P.2.2.1 then (q_help P (q_awk P) (q_spm P (q_awk P)) i.toNatClampNeg t.toNatClampNeg, f) else (-1000000001, q_tel f 0)
def p_done (f : xF) (P : RS) (t : Int32) : Int32 × xF × RS := if q_ix t P.2.2.1 then (rpa P t.toNatClampNeg, f, q_drop P t.toNatClampNeg) else (-1000000001, q_tel f 0, P)
def p_hours (f : xF) (P : RS) (n : Int32) : Int32 × xF × RS := if q_in n 1 60 then (if P.1 + n ≤ 9999 then (q_earn (q_go P n) (q_awk (q_go P n)), f, q_go P n) else (-1000000005, q_tel f 4, P)) else (-1000000001, q_tel f 0, P)
def p_now (f : xF) (P : RS) (w : Int32) : Int32 × xF := if w = 0 then (P.1, f) else if w = 1 then (nI (q_metS P (q_awk P)), f) else if w = 2 then (q_earn P (q_awk P), f) else if w = 3 then (nI P.2.2.2.1, f) else if w = 4 then (nI (q_spm P (q_awk P)), f) else if w = 5 then (q_spread P, f) else (-1000000001, q_tel f 0)
def p_on (f : xF) (P T : RS) (n : Int32) : Int32 × xF × RS := if q_in n 0 60 then (nI (q_metS (q_go P n) (q_awk (q_go P n))), f, q_go P n) else (-1000000001, q_tel f 0, T)
def q_it (P : RS) : Nat → RS
  | 0 => P
  | k + 1 => q_go (q_it P k) 1
def q_find (f : Nat → Bool) : Nat → Nat → Option Nat
  | _, 0 => none
  | k, m + 1 => if f k then some k else q_find f (k + 1) m
/-- the least and best of a row, from below -/
def q_bst (e : Nat → Int32) : Nat → Nat × Int32
  | 0 => (0, -1)
  | k + 1 => if (q_bst e k).2 < e k then (k, e k) else q_bst e k
theorem q_bst_t {e : Nat → Int32} {k : Nat} (h : (q_bst e k).2 < e k) : q_bst e (k + 1) = (k, e k) := by rw [q_bst, if_pos h]
theorem q_bst_f {e : Nat → Int32} {k : Nat} (h : ¬ (q_bst e k).2 < e k) : q_bst e (k + 1) = q_bst e k := by rw [q_bst, if_neg h]
def q_mw (P : RS) (t k : Nat) : Bool := q_isMet (q_it P k) (q_awk (q_it P k)) t
def q_ew (P : RS) (k : Nat) : Int32 := q_earn (q_it P k) (q_awk (q_it P k))
def p_when (f : xF) (P : RS) (t : Int32) : Int32 × xF := if q_ix t P.2.2.1 then (match q_find (q_mw P t.toNatClampNeg) 0 61 with | some k => (nI k, f) | none => (-1000000004, q_tel f 3)) else (-1000000001, q_tel f 0)
def p_best (P : RS) : Int32 := nI (q_bst (q_ew P) 61).1
theorem q_go_pi {P : RS} (h : zPi P) (n : Int32) : zPi (q_go P n) := h
theorem q_it_pi {P : RS} (h : zPi P) : ∀ k, zPi (q_it P k)
  | 0 => h
  | k + 1 => q_go_pi (q_it_pi h k) 1
theorem q_awk_31 {P : RS} (h : P.2.1 ≤ 7) : q_awk P < 2 ^ 31 := q_and_31 (q_all_31 (by omega))
theorem q_awk_128 {P : RS} (h : P.2.1 ≤ 7) : q_awk P < 128 := by
  refine Nat.lt_of_le_of_lt Nat.and_le_left ?_
  unfold q_all
  have : 2 ^ P.2.1 ≤ 2 ^ 7 := Nat.pow_le_pow_right (by decide) h
  omega
