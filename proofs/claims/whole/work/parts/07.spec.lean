/-! ===== a road, in pure words ===== -/
abbrev rk (P : RS) : Nat → Int32 := P.2.2.2.2.1
abbrev rm (P : RS) : Nat → Int32 := P.2.2.2.2.2.1
abbrev rg (P : RS) : Nat → Int32 := P.2.2.2.2.2.2.1
abbrev rs (P : RS) : Nat → Int32 := P.2.2.2.2.2.2.2.1
abbrev rso (P : RS) : Nat → Int32 := P.2.2.2.2.2.2.2.2.1
abbrev rtm (P : RS) : Nat → Int32 := P.2.2.2.2.2.2.2.2.2.1
abbrev rne (P : RS) : Nat → Int32 := P.2.2.2.2.2.2.2.2.2.2.1
abbrev rpa (P : RS) : Nat → Int32 := P.2.2.2.2.2.2.2.2.2.2.2
def q_max (x y : Int32) : Int32 := if x < y then y else x
def q_min (x y : Int32) : Int32 := if y < x then y else x
def q_nc (P : RS) (aw i : Nat) (sp : Int32) (j : Nat) : Bool := decide (¬ j = i) && (aw.testBit j && (q_of (rk P j) sp && decide (¬ (2 < q_abs (rm P j - rm P i)))))
def q_near (P : RS) (aw i : Nat) (sp : Int32) : Nat → Bool
  | 0 => false
  | j + 1 => q_near P aw i sp j || q_nc P aw i sp j
def q_spoilt (P : RS) (aw i : Nat) : Bool := if q_spo (rk P i) = -1 then false else q_near P aw i (q_spo (rk P i)) P.2.1
def q_spm (P : RS) (aw : Nat) : Nat := q_mask (fun i => q_spoilt P aw i) P.2.1
def q_help (P : RS) (aw spm i t : Nat) : Int32 := if aw.testBit i = false then 0 else q_max 0 ((if spm.testBit i then q_work (rk P i) (rso P t) (rs P i) / 2 else q_work (rk P i) (rso P t) (rs P i)) - q_abs (rm P i - rtm P t))
def q_helpA (P : RS) (aw spm t : Nat) : Int32 := q_sum (fun i => q_help P aw spm i t) P.2.1
def q_helpers (P : RS) (aw spm t : Nat) : Nat := q_mask (fun i => decide (¬ q_help P aw spm i t ≤ 0)) P.2.1
def q_isMet (P : RS) (aw t : Nat) : Bool := decide (¬ q_helpA P aw (q_spm P aw) t < rne P t)
def q_metS (P : RS) (aw : Nat) : Nat := q_mask (fun t => q_isMet P aw t) P.2.2.1
def q_sumif (f : Nat → Bool) (v : Nat → Int32) : Nat → Int32
  | 0 => 0
  | j + 1 => if f j then q_sumif f v j + v j else q_sumif f v j
def q_earn (P : RS) (aw : Nat) : Int32 := q_sumif (fun t => (q_metS P aw).testBit t) (rpa P) P.2.2.1
def q_htg (P : RS) (i : Nat) : Int32 := (q_abs (rg P i - rm P i) + q_max 1 (q_pace (rk P i)) - 1) / q_max 1 (q_pace (rk P i))
def q_goM (P : RS) (h : Int32) : Nat → Nat → Int32
  | 0 => rm P
  | j + 1 => if P.2.2.2.1.testBit j then q_goM P h j else upd (q_goM P h j) j (q_goM P h j j + q_max (-(h * q_pace (rk P j))) (q_min (h * q_pace (rk P j)) (rg P j - q_goM P h j j)))
def q_go (P : RS) (h : Int32) : RS := (P.1 + h, P.2.1, P.2.2.1, P.2.2.2.1, rk P, q_goM P h P.2.1, rg P, rs P, rso P, rtm P, rne P, rpa P)
def q_lo (m : Nat → Int32) : Nat → Int32
  | 0 => m 0
  | j + 1 => q_min (q_lo m j) (m j)
def q_hi (m : Nat → Int32) : Nat → Int32
  | 0 => m 0
  | j + 1 => q_max (q_hi m j) (m j)
def q_spread (P : RS) : Int32 := if P.2.1 = 0 then 0 else q_hi (rm P) P.2.1 - q_lo (rm P) P.2.1
def q_add (P : RS) (k m : Int32) : RS := (P.1, P.2.1 + 1, P.2.2.1, P.2.2.2.1, upd (rk P) P.2.1 k, upd (rm P) P.2.1 m, upd (rg P) P.2.1 m, upd (rs P) P.2.1 3, rso P, rtm P, rne P, rpa P)
def q_addT (P : RS) (so m ne pa : Int32) : RS := (P.1, P.2.1, P.2.2.1 + 1, P.2.2.2.1, rk P, rm P, rg P, rs P, upd (rso P) P.2.2.1 so, upd (rtm P) P.2.2.1 m, upd (rne P) P.2.2.1 ne, upd (rpa P) P.2.2.1 pa)
def q_shf (f : Nat → Int32) (d j : Nat) : Nat → Int32 := fun x => if d ≤ x ∧ x < j then f (x + 1) else f x
def q_drop (P : RS) (d : Nat) : RS := (P.1, P.2.1, P.2.2.1 - 1, P.2.2.2.1, rk P, rm P, rg P, rs P, q_shf (rso P) d (P.2.2.1 - 1), q_shf (rtm P) d (P.2.2.1 - 1), q_shf (rne P) d (P.2.2.1 - 1), q_shf (rpa P) d (P.2.2.1 - 1))
def q_not (a : Nat) : Nat := a ^^^ 4294967295
def q_sl (as i : Nat) (b : Bool) : Nat := if b then as ||| 2 ^ i else as &&& q_not (2 ^ i)
def q_slp (P : RS) (i : Nat) (b : Bool) : RS := (P.1, P.2.1, P.2.2.1, q_sl P.2.2.2.1 i b, rk P, rm P, rg P, rs P, rso P, rtm P, rne P, rpa P)
def q_all (P : RS) : Nat := 2 ^ P.2.1 - 1
def q_awk (P : RS) : Nat := q_all P &&& q_not P.2.2.2.1
theorem q_mask_t {f : Nat → Bool} {j : Nat} (h : f j = true) (hj : j < 31) : nI (q_mask f j) ||| ((1 : Int32) <<< (nI j &&& 31)) = nI (q_mask f (j + 1)) := by
  rw [zshl1 hj, zor]
  simp [q_mask, h]
theorem q_mask_f {f : Nat → Bool} {j : Nat} (h : f j = false) : q_mask f (j + 1) = q_mask f j := by simp [q_mask, h]
theorem q_sumif_t {f : Nat → Bool} {v : Nat → Int32} {j : Nat} (h : f j = true) : q_sumif f v (j + 1) = q_sumif f v j + v j := by simp [q_sumif, h]
theorem q_sumif_f {f : Nat → Bool} {v : Nat → Int32} {j : Nat} (h : f j = false) : q_sumif f v (j + 1) = q_sumif f v j := by simp [q_sumif, h]
theorem q_mask_lt (f : Nat → Bool) : ∀ n, q_mask f n < 2 ^ n
  | 0 => Nat.zero_lt_one
  | n + 1 => by
    have h := q_mask_lt f n
    unfold q_mask
    have h2 : 2 ^ n < 2 ^ (n + 1) := Nat.pow_lt_pow_right (by decide) (by omega)
    by_cases c : f n
    · rw [if_pos c]
      exact Nat.or_lt_two_pow (Nat.lt_trans h h2) h2
    · rw [if_neg c]
      exact Nat.lt_trans h h2
theorem q_mask_31 (f : Nat → Bool) {n : Nat} (h : n ≤ 30) : q_mask f n < 2 ^ 31 := Nat.lt_of_lt_of_le (q_mask_lt f n) (Nat.pow_le_pow_right (by decide) (by omega))
theorem q_spm_31 {P : RS} {aw : Nat} (h : P.2.1 ≤ 7) : q_spm P aw < 2 ^ 31 := q_mask_31 _ (by omega)
theorem q_metS_31 {P : RS} {aw : Nat} (h : P.2.2.1 ≤ 8) : q_metS P aw < 2 ^ 31 := q_mask_31 _ (by omega)
theorem q_lo_1 (m : Nat → Int32) : q_lo m 1 = m 0 := by simp [q_lo, q_min]
theorem q_hi_1 (m : Nat → Int32) : q_hi m 1 = m 0 := by simp [q_hi, q_max]
theorem q_near_mono {P : RS} {aw i : Nat} {sp : Int32} {j : Nat} (h : q_near P aw i sp j = true) : ∀ n, j ≤ n → q_near P aw i sp n = true := by
  intro n hn
  induction n with
  | zero => rw [show j = 0 by omega] at h; exact h
  | succ n ih =>
    by_cases e : j = n + 1
    · rw [← e]; exact h
    · simp [q_near, ih (by omega)]
theorem q_shf_0 (f : Nat → Int32) (d : Nat) : q_shf f d d = f := by
  funext x
  unfold q_shf
  rw [if_neg (by omega)]
theorem q_shf_s (f : Nat → Int32) {d j : Nat} (h : d ≤ j) : upd (q_shf f d j) j (q_shf f d j (j + 1)) = q_shf f d (j + 1) := by
  funext x
  unfold upd q_shf
  by_cases e : x = j
  · subst e
    rw [if_pos rfl, if_neg (by omega), if_pos (by omega)]
  · rw [if_neg e]
    by_cases c : d ≤ x ∧ x < j
    · rw [if_pos c, if_pos (by omega)]
    · rw [if_neg c, if_neg (by omega)]
theorem zsub1 {t : Nat} (h : 0 < t) : nI t - 1 = nI (t - 1) := by
  have e : (1 : Int32) = nI 1 := rfl
  rw [e, pk_sub h]
theorem zxor (a b : Nat) : nI a ^^^ nI b = nI (a ^^^ b) := by
  unfold nI
  apply Int32.toBitVec_inj.mp
  apply BitVec.eq_of_toNat_eq
  simp only [Int32.toBitVec_xor, BitVec.toNat_xor]
  show (BitVec.ofNat 32 a).toNat ^^^ (BitVec.ofNat 32 b).toNat = (BitVec.ofNat 32 (a ^^^ b)).toNat
  simp only [BitVec.toNat_ofNat]
  exact (Nat.xor_mod_two_pow).symm
theorem znot (a : Nat) : nI a ^^^ (-1) = nI (q_not a) := by
  have e : (-1 : Int32) = nI 4294967295 := by decide
  rw [e, zxor]
  rfl
theorem q_pace_ne (k : Int32) : ¬ q_max 1 (q_pace k) = 0 := by
  unfold q_pace
  split
  · decide
  · split
    · decide
    · decide
theorem q_and_31 {a b : Nat} (h : a < 2 ^ 31) : a &&& b < 2 ^ 31 := Nat.lt_of_le_of_lt Nat.and_le_left h
theorem q_all_31 {n : Nat} (h : n ≤ 30) : 2 ^ n - 1 < 2 ^ 31 := Nat.lt_of_le_of_lt (Nat.sub_le _ _) (Nat.pow_lt_pow_right (by decide) (by omega))
section zNames
variable {J : va_W → Nat → zLV → List Value → Prop} {w : va_W} {pc : Nat} {lv : zLV} {st : List Value}
theorem z_n {x : Int32} (k : ∀ y : Int32, y = x → J w pc lv (.int y :: st)) : J w pc lv (.int x :: st) := k x rfl
theorem z_nl {x : Int64} (k : ∀ y : Int64, y = x → J w pc lv (.long y :: st)) : J w pc lv (.long x :: st) := k x rfl
theorem z_nb {x : Bool} (k : ∀ y : Bool, y = x → J w pc lv (.int (zB y) :: st)) : J w pc lv (.int (zB x) :: st) := k x rfl
end zNames
