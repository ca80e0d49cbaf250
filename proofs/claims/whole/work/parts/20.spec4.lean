/-! ===== what each call answers, in pure words: the answer, and what it leaves ===== -/
def q_tel (f : Nat → Int32) (k : Nat) : Nat → Int32 := upd f k (f k + 1)
def q_ix (i : Int32) (n : Nat) : Bool := q_in i 0 (nI n - 1)
theorem q_ix_t {j n : Nat} (hj : j < n) (hn : n ≤ 8) : q_ix (nI j) n = true := by
  unfold q_ix q_in
  rw [zsub1 (by omega), decide_eq_false (nI_pos (by omega)), decide_eq_false (nI_nlt (by omega) (by omega))]
  rfl
theorem q_ix_or (i : Int32) {n : Nat} (hn : n ≤ 8) : (∃ j, j < n ∧ i = nI j) ∨ q_ix i n = false := by
  by_cases h : q_ix i n = true
  · left
    unfold q_ix q_in at h
    simp only [Bool.and_eq_true, Bool.not_eq_true', decide_eq_false_iff_not] at h
    obtain ⟨j, hj, e⟩ := nI_of h.1
    refine ⟨j, ?_, e⟩
    have h2 := h.2
    rw [e] at h2
    rcases Nat.eq_zero_or_pos n with rfl | hp
    · exfalso
      apply h2
      rw [show nI 0 - 1 = (-1 : Int32) by decide, Int32.lt_iff_toInt_lt, nI_toInt hj]
      have : (-1 : Int32).toInt = -1 := by decide
      omega
    · rw [zsub1 hp] at h2
      rcases Nat.lt_or_ge j n with q | q
      · exact q
      · exact absurd (nI_lt (a := n - 1) (b := j) (by omega) hj) h2
  · right
    exact Bool.eq_false_iff.mpr h
def q_may (w v : Int32) : Bool := if w = 1 then q_in v 0 30 else if w = 2 then q_in v 0 30 else if w = 3 then q_in v 1 9 else if w = 4 then q_in v 0 1 else false
abbrev xF : Type := Nat → Int32
def p_fellow (f : xF) (P : RS) (k m : Int32) : Int32 × xF × RS := if q_in k 0 5 && q_in m 0 30 then (if P.2.1 < 7 then (nI P.2.1, f, q_add P k m) else (-1000000002, q_tel f 1, P)) else (-1000000001, q_tel f 0, P)
def p_of (f : xF) (P : RS) (i w : Int32) : Int32 × xF :=
  if q_ix i P.2.1 then (if w = 0 then (rk P i.toNatClampNeg, f) else if w = 1 then (rm P i.toNatClampNeg, f) else if w = 2 then (rg P i.toNatClampNeg, f) else if w = 3 then (rs P i.toNatClampNeg, f) else if w = 4 then (zB (P.2.2.2.1.testBit i.toNatClampNeg), f) else if w = 5 then (zB (q_spoilt P (q_awk P) i.toNatClampNeg), f) else if w = 6 then (q_pace (rk P i.toNatClampNeg), f) else if w = 7 then (q_htg P i.toNatClampNeg, f) else (-1000000001, q_tel f 0)) else (-1000000001, q_tel f 0)
def p_set (f : xF) (P : RS) (i w v : Int32) : Int32 × xF × RS :=
  if q_ix i P.2.1 && q_may w v then (if w = 4 then (zB (P.2.2.2.1.testBit i.toNatClampNeg), f, q_slp P i.toNatClampNeg (decide (v = 1))) else if w = 1 then (rm P i.toNatClampNeg, f, q_setM P i.toNatClampNeg v) else if w = 2 then (rg P i.toNatClampNeg, f, q_setG P i.toNatClampNeg v) else (rs P i.toNatClampNeg, f, q_setS P i.toNatClampNeg v)) else (-1000000001, q_tel f 0, P)
def p_turn (f : xF) (P : RS) (i k : Int32) : Int32 × xF × RS := if q_ix i P.2.1 && q_in k 0 5 then (rk P i.toNatClampNeg, f, q_setK P i.toNatClampNeg k) else (-1000000001, q_tel f 0, P)
def p_as (f : xF) (P : RS) (i k : Int32) : Int32 × xF := if q_ix i P.2.1 && q_in k 0 5 then (if q_of (rk P i.toNatClampNeg) k then (rs P i.toNatClampNeg, f) else (-1000000003, q_tel f 2)) else (-1000000001, q_tel f 0)
def p_does (f : xF) (P : RS) (i so : Int32) : Int32 × xF := if q_ix i P.2.1 && q_in so 0 4 then (q_work (rk P i.toNatClampNeg) so (rs P i.toNatClampNeg), f) else (-1000000001, q_tel f 0)
def p_task (f : xF) (P : RS) (so m ne pa : Int32) : Int32 × xF × RS := if q_in so 0 4 && (q_in m 0 30 && (q_in ne 1 99 && q_in pa 0 99)) then (if P.2.2.1 < 8 then (nI P.2.2.1, f, q_addT P so m ne pa) else (-1000000002, q_tel f 1, P)) else (-1000000001, q_tel f 0, P)
def p_taskOf (f : xF) (P : RS) (t w : Int32) : Int32 × xF :=
  if q_ix t P.2.2.1 then (if w = 0 then (rso P t.toNatClampNeg, f) else if w = 1 then (rtm P t.toNatClampNeg, f) else if w = 2 then (rne P t.toNatClampNeg, f) else if w = 3 then (rpa P t.toNatClampNeg, f) else if w = 4 then (q_helpA P (q_awk P) (q_spm P (q_awk P)) t.toNatClampNeg, f) else if w = 5 then (zB (q_isMet P (q_awk P) t.toNatClampNeg), f) else if w = 6 then (nI (q_helpers P (q_awk P) (q_spm P (q_awk P)) t.toNatClampNeg), f) else (-1000000001, q_tel f 0)) else (-1000000001, q_tel f 0)
def p_helps (f : xF) (P : RS) (i t : Int32) : Int32 × xF := if q_ix i P.2.1 && q_ix t P.2.2.1 then (q_help P (q_awk P) (q_spm P (q_awk P)) i.toNatClampNeg t.toNatClampNeg, f) else (-1000000001, q_tel f 0)
def p_done (f : xF) (P : RS) (t : Int32) : Int32 × xF × RS := if q_ix t P.2.2.1 then (rpa P t.toNatClampNeg, f, q_drop P t.toNatClampNeg) else (-1000000001, q_tel f 0, P)
def p_hours (f : xF) (P : RS) (n : Int32) : Int32 × xF × RS := if q_in n 1 60 then (if P.1 + n ≤ 9999 then (q_earn (q_go P n) (q_awk (q_go P n)), f, q_go P n) else (-1000000005, q_tel f 4, P)) else (-1000000001, q_tel f 0, P)
def p_now (f : xF) (P : RS) (w : Int32) : Int32 × xF := if w = 0 then (P.1, f) else if w = 1 then (nI (q_metS P (q_awk P)), f) else if w = 2 then (q_earn P (q_awk P), f) else if w = 3 then (nI P.2.2.2.1, f) else if w = 4 then (nI (q_spm P (q_awk P)), f) else if w = 5 then (q_spread P, f) else (-1000000001, q_tel f 0)
def p_on (f : xF) (P T : RS) (n : Int32) : Int32 × xF × RS := if q_in n 0 60 then (nI (q_metS (q_go P n) (q_awk (q_go P n))), f, q_go P n) else (-1000000001, q_tel f 0, T)
def q_it (P : RS) : Nat → RS
  | 0 => P
  | k + 1 => q_go (q_it P k) 1
def q_find (f : Nat → Bool) : Nat → Nat → Option Nat
  | _, 0 => none
  | k, m + 1 => if f k then some k else q_find f (k + 1) m
/-- the least and best of a row, from below -/
def q_bst (e : Nat → Int32) : Nat → Nat × Int32
  | 0 => (0, -1)
  | k + 1 => if e k ≤ (q_bst e k).2 then q_bst e k else (k, e k)
theorem q_bst_t {e : Nat → Int32} {k : Nat} (h : ¬ e k ≤ (q_bst e k).2) : q_bst e (k + 1) = (k, e k) := by rw [q_bst, if_neg h]
theorem q_bst_f {e : Nat → Int32} {k : Nat} (h : e k ≤ (q_bst e k).2) : q_bst e (k + 1) = q_bst e k := by rw [q_bst, if_pos h]
def q_mw (P : RS) (t k : Nat) : Bool := q_isMet (q_it P k) (q_awk (q_it P k)) t
def q_ew (P : RS) (k : Nat) : Int32 := q_earn (q_it P k) (q_awk (q_it P k))
def p_when (f : xF) (P T : RS) (t : Int32) : Int32 × xF × RS := if q_ix t P.2.2.1 then (match q_find (q_mw P t.toNatClampNeg) 0 61 with | some k => (nI k, f, q_it P k) | none => (-1000000004, q_tel f 3, q_it P 61)) else (-1000000001, q_tel f 0, T)
def p_best (P : RS) : Int32 := nI (q_bst (q_ew P) 61).1
theorem q_go_pi {P : RS} (h : zPi P) (n : Int32) : zPi (q_go P n) := h
theorem q_it_pi {P : RS} (h : zPi P) : ∀ k, zPi (q_it P k)
  | 0 => h
  | k + 1 => q_go_pi (q_it_pi h k) 1
theorem q_awk_31 {P : RS} (h : P.2.1 ≤ 7) : q_awk P < 2 ^ 31 := q_and_31 (q_all_31 (by omega))
theorem q_awk_128 {P : RS} (h : P.2.1 ≤ 7) : q_awk P < 128 := by
  refine Nat.lt_of_le_of_lt Nat.and_le_left ?_
  unfold q_all
  have : 2 ^ P.2.1 ≤ 2 ^ 7 := Nat.pow_le_pow_right (by decide) h
  omega
theorem q_ix_or2 (i u : Int32) {n t : Nat} (hn : n ≤ 8) (ht : t ≤ 8) : (∃ j k, j < n ∧ k < t ∧ i = nI j ∧ u = nI k) ∨ (q_ix i n = true ∧ q_ix u t = false) ∨ q_ix i n = false := by
  rcases q_ix_or i hn with ⟨j, hj, e⟩ | h
  · rcases q_ix_or u ht with ⟨k, hk, e2⟩ | h2
    · exact Or.inl ⟨j, k, hj, hk, e, e2⟩
    · exact Or.inr (Or.inl ⟨by rw [e]; exact q_ix_t hj hn, h2⟩)
  · exact Or.inr (Or.inr h)
def q_sv (f : Nat → Int32) (i : Nat) : Nat → Nat → Int32
  | 0 => f
  | j + 1 => upd f i (nI j)
theorem q_sv_s (f : Nat → Int32) (i : Nat) : ∀ j, upd (q_sv f i j) i (nI j) = upd f i (nI j)
  | 0 => rfl
  | j + 1 => by
    show upd (upd f i (nI j)) i (nI (j + 1)) = _
    funext x
    unfold upd
    by_cases h : x = i
    · rw [if_pos h, if_pos h]
    · rw [if_neg h, if_neg h, if_neg h]
theorem q_upd_back (f : Nat → Int32) (i : Nat) (x : Int32) : upd (upd f i x) i (f i) = f := by
  funext y
  unfold upd
  by_cases h : y = i
  · rw [if_pos h, h]
  · rw [if_neg h, if_neg h]
def q_eM (P : RS) (i k : Nat) : Int32 := q_earn (q_setM P i (nI k)) (q_awk P)
def q_eK (P : RS) (i k : Nat) : Int32 := q_earn (q_setK P i (nI k)) (q_awk P)
def p_stand (f : xF) (P T : RS) (i : Int32) : Int32 × xF × RS := if q_ix i P.2.1 then (nI (q_bst (q_eM P i.toNatClampNeg) 31).1, f, q_setM P i.toNatClampNeg 30) else (-1000000001, q_tel f 0, T)
def p_kind (f : xF) (P T : RS) (i : Int32) : Int32 × xF × RS := if q_ix i P.2.1 then (nI (q_bst (q_eK P i.toNatClampNeg) 6).1, f, q_setK P i.toNatClampNeg 5) else (-1000000001, q_tel f 0, T)
def q_bs (e : Nat → Int32) (aw : Nat) : Nat → Nat × Int32
  | 0 => (0, -1)
  | s + 1 => if s &&& aw = s ∧ ((q_bs e aw s).2 < e s ∨ (e s = (q_bs e aw s).2 ∧ ¬ q_bc (nI (q_bs e aw s).1) ≤ q_bc (nI s))) then (s, e s) else q_bs e aw s
theorem q_bs_t {e : Nat → Int32} {aw s : Nat} (h : s &&& aw = s ∧ ((q_bs e aw s).2 < e s ∨ (e s = (q_bs e aw s).2 ∧ ¬ q_bc (nI (q_bs e aw s).1) ≤ q_bc (nI s)))) : q_bs e aw (s + 1) = (s, e s) := by rw [q_bs, if_pos h]
theorem q_bs_f {e : Nat → Int32} {aw s : Nat} (h : ¬ (s &&& aw = s ∧ ((q_bs e aw s).2 < e s ∨ (e s = (q_bs e aw s).2 ∧ ¬ q_bc (nI (q_bs e aw s).1) ≤ q_bc (nI s))))) : q_bs e aw (s + 1) = q_bs e aw s := by rw [q_bs, if_neg h]
theorem q_bs_le (e : Nat → Int32) (aw : Nat) : ∀ n, (q_bs e aw n).1 ≤ n
  | 0 => Nat.le_refl 0
  | n + 1 => by
    have h := q_bs_le e aw n
    rw [q_bs]
    split
    · exact Nat.le_succ n
    · exact Nat.le_succ_of_le h
def q_best (P : RS) : Nat := (q_bs (q_earn P) (q_awk P) (q_awk P + 1)).1
def q_sm (m : Nat → Bool) (aw : Nat) : Nat → Nat
  | 0 => 0
  | s + 1 => if s ≠ 0 ∧ s &&& aw = s ∧ m s = true ∧ (q_sm m aw s = 0 ∨ ¬ q_bc (nI (q_sm m aw s)) ≤ q_bc (nI s)) then s else q_sm m aw s
theorem q_sm_t {m : Nat → Bool} {aw s : Nat} (h : s ≠ 0 ∧ s &&& aw = s ∧ m s = true ∧ (q_sm m aw s = 0 ∨ ¬ q_bc (nI (q_sm m aw s)) ≤ q_bc (nI s))) : q_sm m aw (s + 1) = s := by rw [q_sm, if_pos h]
theorem q_sm_f {m : Nat → Bool} {aw s : Nat} (h : ¬ (s ≠ 0 ∧ s &&& aw = s ∧ m s = true ∧ (q_sm m aw s = 0 ∨ ¬ q_bc (nI (q_sm m aw s)) ≤ q_bc (nI s)))) : q_sm m aw (s + 1) = q_sm m aw s := by rw [q_sm, if_neg h]
theorem q_sm_1 (m : Nat → Bool) (aw : Nat) : q_sm m aw 1 = 0 := by simp [q_sm]
theorem q_sm_le (m : Nat → Bool) (aw : Nat) : ∀ n, q_sm m aw n ≤ n
  | 0 => Nat.le_refl 0
  | n + 1 => by
    have h := q_sm_le m aw n
    rw [q_sm]
    split
    · exact Nat.le_succ n
    · exact Nat.le_succ_of_le h
def q_sml (P : RS) (t : Nat) : Nat := q_sm (fun s => q_isMet P s t) (q_awk P) (q_awk P + 1)
def p_fewest (f : xF) (P : RS) (t : Int32) : Int32 × xF := if q_ix t P.2.2.1 then (if q_sml P t.toNatClampNeg = 0 then (-1000000004, q_tel f 3) else (q_bc (nI (q_sml P t.toNatClampNeg)), f)) else (-1000000001, q_tel f 0)
def p_who (f : xF) (P : RS) (t : Int32) : Int32 × xF := if q_ix t P.2.2.1 then (if q_sml P t.toNatClampNeg = 0 then (-1000000004, q_tel f 3) else (nI (q_sml P t.toNatClampNeg), f)) else (-1000000001, q_tel f 0)
def q_clr (a j : Nat) : Nat := a &&& q_not (2 ^ j)
theorem q_clr_e {a j : Nat} (hj : j < 31) : nI a &&& (((1 : Int32) <<< (nI j &&& 31)) ^^^ (-1)) = nI (q_clr a j) := by rw [zshl1 hj, znot, zand]; rfl
theorem q_clr_31 {a j : Nat} (h : a < 2 ^ 31) : q_clr a j < 2 ^ 31 := q_and_31 h
def q_spl (P : RS) (i : Nat) : Bool := (q_awk P).testBit i && decide (¬ q_earn P (q_clr (q_awk P) i) ≤ q_earn P (q_awk P))
def p_spoils (P : RS) : Int32 := nI (q_mask (q_spl P) P.2.1)
def q_eS (P : RS) (i : Nat) : Int32 := q_earn (q_setS P i (q_min (rs P i + 1) 9)) (q_awk P)
def q_ln (P : RS) : Nat → Int32 × Int32
  | 0 => (-1, q_earn P (q_awk P))
  | i + 1 => if q_eS P i ≤ (q_ln P i).2 then q_ln P i else (nI i, q_eS P i)
theorem q_ln_t {P : RS} {k : Nat} (h : ¬ q_eS P k ≤ (q_ln P k).2) : q_ln P (k + 1) = (nI k, q_eS P k) := by rw [q_ln, if_neg h]
theorem q_ln_f {P : RS} {k : Nat} (h : q_eS P k ≤ (q_ln P k).2) : q_ln P (k + 1) = q_ln P k := by rw [q_ln, if_pos h]
def p_learn (f : xF) (P : RS) : Int32 × xF := if 0 ≤ (q_ln P P.2.1).1 then ((q_ln P P.2.1).1, f) else (-1000000004, q_tel f 3)
def q_ms (P : RS) (i t k : Nat) : Bool := q_isMet (q_setS P i (nI k)) (q_awk P) t
def p_skill (f : xF) (P T : RS) (i t : Int32) : Int32 × xF × RS := if q_ix i P.2.1 && q_ix t P.2.2.1 then (match q_find (q_ms P i.toNatClampNeg t.toNatClampNeg) 1 9 with | some k => (nI k, f, q_setS P i.toNatClampNeg (nI k)) | none => (-1000000004, q_tel f 3, q_setS P i.toNatClampNeg (nI 9))) else (-1000000001, q_tel f 0, T)
def p_missed (f : xF) (P : RS) (i : Int32) : Int32 × xF := if q_ix i P.2.1 then (q_earn P (q_awk P) - q_earn P (q_clr (q_awk P) i.toNatClampNeg), f) else (-1000000001, q_tel f 0)
