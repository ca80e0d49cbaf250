/-! ===== shares, texts, sheets, images: what each call answers ===== -/
def q_s1 (f : Nat → Int32) (i : Nat) : Nat → Nat → Int32
  | 0 => f
  | l + 1 => upd f i (nI (l + 1))
theorem q_s1_s (f : Nat → Int32) (i : Nat) : ∀ l, upd (q_s1 f i l) i (nI (l + 1)) = upd f i (nI (l + 1))
  | 0 => rfl
  | l + 1 => by
    show upd (upd f i (nI (l + 1))) i (nI (l + 1 + 1)) = _
    funext x
    unfold upd
    by_cases h : x = i
    · rw [if_pos h, if_pos h]
    · rw [if_neg h, if_neg h, if_neg h]
def q_bits (s : Nat) : Nat := s % 2 + (s / 2 % 2 + (s / 4 % 2 + (s / 8 % 2 + (s / 16 % 2 + (s / 32 % 2 + (s / 64 % 2 + s / 128 % 2))))))
theorem q_bc_bits {s : Nat} (h : s < 256) : q_bc (nI s) = nI (q_bits s) := by
  have k : ∀ s : Fin 256, q_bc (nI s.val) = nI (q_bits s.val) := by decide +kernel
  exact k ⟨s, h⟩
theorem q_bits_lt {n i s : Nat} (hn : n ≤ 7) (hi : i < n) (hs : s < 2 ^ n) (hb : s.testBit i = false) : q_bits s < n := by
  have k : ∀ n : Fin 8, ∀ s : Fin 128, ∀ i : Fin 7, i.val < n.val → s.val < 2 ^ n.val → s.val.testBit i.val = false → q_bits s.val < n.val := by decide +kernel
  have h7 : 2 ^ n ≤ 2 ^ 7 := Nat.pow_le_pow_right (by decide) hn
  exact k ⟨n, by omega⟩ ⟨s, by omega⟩ ⟨i, by omega⟩ hi hs hb
theorem q_bits_8 (s : Nat) : q_bits s ≤ 8 := by unfold q_bits; omega
def q_wg (P : RS) (es : Nat → Int32) (j : Nat) : Nat → Int32 := fun s => if s < j then q_earn P (s &&& q_awk P) else es s
theorem q_wg_0 (P : RS) (es : Nat → Int32) : q_wg P es 0 = es := by
  funext s
  unfold q_wg
  rw [if_neg (Nat.not_lt_zero s)]
theorem q_wg_s (P : RS) (es : Nat → Int32) (j : Nat) : upd (q_wg P es j) j (q_earn P (j &&& q_awk P)) = q_wg P es (j + 1) := by
  funext s
  unfold q_wg upd
  by_cases h : s = j
  · rw [if_pos h, if_pos (by omega), h]
  · rw [if_neg h]
    dsimp only
    by_cases h2 : s < j
    · rw [if_pos h2, if_pos (by omega)]
    · rw [if_neg h2, if_neg (by omega)]
def q_ord (n s : Nat) : Int64 := (zfa (q_bits s)).toInt64 * (zfa (n - 1 - q_bits s)).toInt64
def q_sh (es : Nat → Int32) (n i : Nat) : Nat → Int64
  | 0 => 0
  | s + 1 => if s.testBit i then q_sh es n i s else q_sh es n i s + q_ord n s * (es (s ||| 2 ^ i) - es s).toInt64
theorem q_sh_t {es : Nat → Int32} {n i s : Nat} (h : s.testBit i = true) : q_sh es n i (s + 1) = q_sh es n i s := by rw [q_sh, if_pos h]
theorem q_sh_f {es : Nat → Int32} {n i s : Nat} (h : s.testBit i = false) : q_sh es n i (s + 1) = q_sh es n i s + q_ord n s * (es (s ||| 2 ^ i) - es s).toInt64 := by rw [q_sh, if_neg (by rw [h]; decide)]
def q_shr (es : Nat → Int32) (n i : Nat) : Int64 := q_sh es n i (2 ^ n) * (zwt n).toInt64
def q_wgA (P : RS) (es : Nat → Int32) : Nat → Int32 := q_wg P es (2 ^ P.2.1)
theorem q_all1 (P : RS) : q_all P + 1 = 2 ^ P.2.1 := by
  unfold q_all
  have : 0 < 2 ^ P.2.1 := Nat.two_pow_pos _
  omega
theorem q_all_127 {P : RS} (h : P.2.1 ≤ 7) : q_all P ≤ 127 := by
  have := q_all1 P
  have : 2 ^ P.2.1 ≤ 2 ^ 7 := Nat.pow_le_pow_right (by decide) h
  omega
def p_share (f : xF) (P : RS) (es : xF) (i : Int32) : Int64 × xF × xF := if q_ix i P.2.1 then (q_shr (q_wgA P es) P.2.1 i.toNatClampNeg, f, q_wgA P es) else ((-1000000001 : Int32).toInt64, q_tel f 0, es)
def q_ft (sh : Nat → Int64) : Nat → Nat
  | 0 => 0
  | j + 1 => if lg_cmp (sh j) (sh (q_ft sh j)) ≤ 0 then q_ft sh j else j
theorem q_ft_t {sh : Nat → Int64} {j : Nat} (h : ¬ lg_cmp (sh j) (sh (q_ft sh j)) ≤ 0) : q_ft sh (j + 1) = j := by rw [q_ft, if_neg h]
theorem q_ft_f {sh : Nat → Int64} {j : Nat} (h : lg_cmp (sh j) (sh (q_ft sh j)) ≤ 0) : q_ft sh (j + 1) = q_ft sh j := by rw [q_ft, if_pos h]
theorem q_ft_1 (sh : Nat → Int64) : q_ft sh 1 = 0 := by
  rw [q_ft, q_ft]
  split <;> rfl
theorem q_ft_lt (sh : Nat → Int64) : ∀ j, q_ft sh (j + 1) ≤ j
  | 0 => by rw [q_ft_1]; exact Nat.le_refl 0
  | j + 1 => by
    have h := q_ft_lt sh j
    rw [q_ft]
    split
    · exact Nat.le_succ_of_le h
    · exact Nat.le_refl _
def p_first (f : xF) (P : RS) (es : xF) : Int32 × xF × xF := if P.2.1 = 0 then (-1000000004, q_tel f 3, es) else (nI (q_ft (q_shr (q_wgA P es) P.2.1) P.2.1), f, q_wgA P es)
def q_cnt (f : Nat → Bool) : Nat → Nat
  | 0 => 0
  | j + 1 => if f j then q_cnt f j + 1 else q_cnt f j
theorem q_cnt_t {f : Nat → Bool} {j : Nat} (h : f j = true) : q_cnt f (j + 1) = q_cnt f j + 1 := by rw [q_cnt, if_pos h]
theorem q_cnt_f {f : Nat → Bool} {j : Nat} (h : f j = false) : q_cnt f (j + 1) = q_cnt f j := by rw [q_cnt, if_neg (by rw [h]; decide)]
def q_sts (P : RS) (v : Int32) (s : Nat) : Bool := decide (¬ q_earn P (s &&& q_awk P) < v)
def p_sets (f : xF) (P : RS) (v : Int32) : Int32 × xF := if q_in v 0 999 then (nI (q_cnt (q_sts P v) (2 ^ P.2.1)), f) else (-1000000001, q_tel f 0)
theorem q_in_or (n : Int32) : (∃ m, 1 ≤ m ∧ m ≤ 4 ∧ n = nI m) ∨ q_in n 1 4 = false := by
  by_cases h : q_in n 1 4 = true
  · left
    unfold q_in at h
    simp only [Bool.and_eq_true, Bool.not_eq_true', decide_eq_false_iff_not] at h
    have h1 : ¬ n < 0 := fun q => h.1 (by rw [Int32.lt_iff_toInt_lt] at q ⊢; have e0 : (0 : Int32).toInt = 0 := by decide
                                          have e1 : (1 : Int32).toInt = 1 := by decide
                                          omega)
    obtain ⟨m, hm, rfl⟩ := nI_of h1
    refine ⟨m, ?_, ?_, rfl⟩
    · rcases Nat.lt_or_ge m 1 with q | q
      · exact absurd (nI_lt (a := m) (b := 1) q (by decide)) h.1
      · exact q
    · rcases Nat.lt_or_ge 4 m with q | q
      · exact absurd (nI_lt (a := 4) (b := m) q hm) h.2
      · exact q
  · exact Or.inr (Bool.eq_false_iff.mpr h)
def p_feed (f : xF) (tp : TS) (x n : Int32) : Int32 × xF × TS := if q_in n 1 4 then (if tp.2.1 + n.toNatClampNeg ≤ 120 then (nI (tp.2.1 + n.toNatClampNeg), f, (q_app tp.1 tp.2.1 x n.toNatClampNeg, tp.2.1 + n.toNatClampNeg, tp.2.2.1, tp.2.2.2.1, tp.2.2.2.2.1, tp.2.2.2.2.2)) else (-1000000002, q_tel f 1, tp)) else (-1000000001, q_tel f 0, tp)
def q_emp (tp : TS) : TS := (tp.1, 0, tp.2.2.1, tp.2.2.2.1, tp.2.2.2.2.1, tp.2.2.2.2.2)
def q_rd (P : RS) (tp : TS) : Int32 × TS × RS := q_tell 120 (q_adv (tp.1, tp.2.1, tp.2.2.1, tp.2.2.2.1, 0, tp.2.2.2.2.2)) P 0
def p_road (P : RS) (tp : TS) : Int32 × RS × RS × TS := ((q_rd P tp).1, if 0 ≤ (q_rd P tp).1 then (q_rd P tp).2.2 else P, (q_rd P tp).2.2, q_emp (q_rd P tp).2.1)
theorem q_in_sh (s : Int32) : (∃ k, k < 4 ∧ s = nI k) ∨ q_in s 0 3 = false := by
  rcases q_ix_or s (n := 4) (by decide) with ⟨j, hj, e⟩ | h
  · exact Or.inl ⟨j, hj, e⟩
  · right
    unfold q_ix at h
    rw [show nI 4 - 1 = (3 : Int32) by decide] at h
    exact h
theorem q_in_sh_t {k : Nat} (hk : k < 4) : q_in (nI k) 0 3 = true := by
  have h := q_ix_t (j := k) (n := 4) hk (by decide)
  unfold q_ix at h
  rw [show nI 4 - 1 = (3 : Int32) by decide] at h
  exact h
abbrev xS : Type := Nat → SS
def q_ssU (ss : xS) (k : Nat) (S : SS) : xS := fun j => if j = k then S else ss j
def q_bt (b : Int32) : Bool := decide (b = 0) || (decide (b = 8) || (decide (b = 16) || decide (b = 64)))
def p_sheet (f : xF) (ss : xS) (s b n : Int32) : Int32 × xF × xS := if q_in s 0 3 && q_bt b then (if 0 ≤ n then (if n ≤ 40 then (nI (if b = 0 then 0 else n.toNatClampNeg), f, q_ssU ss s.toNatClampNeg (q_beg b n.toNatClampNeg)) else (-1000000001, q_tel f 0, ss)) else (-1000000007, q_tel f 6, ss)) else (-1000000001, q_tel f 0, ss)
def p_write (f : xF) (ss : xS) (s i : Int32) (v : Int64) : Int64 × xF × xS := if q_in s 0 3 then (if (ss s.toNatClampNeg).1 = 0 then ((-1000000006 : Int32).toInt64, q_tel f 5, ss) else if q_in i 0 (nI (ss s.toNatClampNeg).2.1 - 1) then ((ss s.toNatClampNeg).2.2 i.toNatClampNeg, f, q_ssU ss s.toNatClampNeg ((ss s.toNatClampNeg).1, (ss s.toNatClampNeg).2.1, vp_updL (ss s.toNatClampNeg).2.2 i.toNatClampNeg (q_nar (ss s.toNatClampNeg).1 v))) else ((-1000000001 : Int32).toInt64, q_tel f 0, ss)) else ((-1000000001 : Int32).toInt64, q_tel f 0, ss)
def p_copy (f : xF) (ss : xS) (s fr t to n : Int32) : Int32 × xF × xS :=
  if q_in s 0 3 && q_in t 0 3 then (if (ss s.toNatClampNeg).1 = 0 ∨ (ss t.toNatClampNeg).1 = 0 then (-1000000006, q_tel f 5, ss) else if (ss s.toNatClampNeg).1 = (ss t.toNatClampNeg).1 then (if q_holds (ss s.toNatClampNeg) fr n && q_holds (ss t.toNatClampNeg) to n then (n, f, q_ssU ss t.toNatClampNeg ((ss t.toNatClampNeg).1, (ss t.toNatClampNeg).2.1, va_cpy (ss s.toNatClampNeg).2.2 (ss t.toNatClampNeg).2.2 fr.toNatClampNeg to.toNatClampNeg n.toNatClampNeg)) else (-1000000001, q_tel f 0, ss)) else (-1000000003, q_tel f 2, ss)) else (-1000000001, q_tel f 0, ss)
def q_ok (v : Int64) : Bool := !decide (lg_cmp v 0 < 0) && !decide (0 < lg_cmp v 30)
/-- goals laid from a sheet: how many came, and the goals -/
def q_lay (num : Nat → Int64) (gl : Nat → Int32) : Nat → Nat × (Nat → Int32)
  | 0 => (0, gl)
  | j + 1 => if q_ok (num j) then ((q_lay num gl j).1 + 1, upd (q_lay num gl j).2 j (num j).toInt32) else q_lay num gl j
theorem q_lay_t {num : Nat → Int64} {gl : Nat → Int32} {j : Nat} (h : q_ok (num j) = true) : q_lay num gl (j + 1) = ((q_lay num gl j).1 + 1, upd (q_lay num gl j).2 j (num j).toInt32) := by rw [q_lay, if_pos h]
theorem q_lay_f {num : Nat → Int64} {gl : Nat → Int32} {j : Nat} (h : q_ok (num j) = false) : q_lay num gl (j + 1) = q_lay num gl j := by rw [q_lay, if_neg (by rw [h]; decide)]
def q_gls (P : RS) (gl : Nat → Int32) : RS := (P.1, P.2.1, P.2.2.1, P.2.2.2.1, rk P, rm P, gl, rs P, rso P, rtm P, rne P, rpa P)
def p_lays (f : xF) (P : RS) (ss : xS) (s : Int32) : Int32 × xF × RS := if q_in s 0 3 then (if (ss s.toNatClampNeg).1 = 0 then (-1000000006, q_tel f 5, P) else (nI (q_lay (ss s.toNatClampNeg).2.2 (rg P) (min (ss s.toNatClampNeg).2.1 P.2.1)).1, f, q_gls P (q_lay (ss s.toNatClampNeg).2.2 (rg P) (min (ss s.toNatClampNeg).2.1 P.2.1)).2)) else (-1000000001, q_tel f 0, P)
def q_bk (P : RS) (S : SS) : Nat → (Nat → Int64)
  | 0 => S.2.2
  | j + 1 => vp_updL (q_bk P S j) j (q_nar S.1 (q_ew P j).toInt64)
def p_book (f : xF) (P T : RS) (ss : xS) (s : Int32) : Int32 × xF × RS × xS := if q_in s 0 3 then (if (ss s.toNatClampNeg).1 = 0 then (-1000000006, q_tel f 5, T, ss) else (nI (ss s.toNatClampNeg).2.1, f, q_it P (ss s.toNatClampNeg).2.1, q_ssU ss s.toNatClampNeg ((ss s.toNatClampNeg).1, (ss s.toNatClampNeg).2.1, q_bk P (ss s.toNatClampNeg) (ss s.toNatClampNeg).2.1))) else (-1000000001, q_tel f 0, T, ss)
def q_told (P : RS) (S : SS) : Nat := 2 ^ (min S.2.1 P.2.2.1) - 1
def q_so (P : RS) (S : SS) (z : Nat) : Bool := decide (q_metS P (q_all P &&& q_not z) &&& q_told P S = q_nz S &&& q_told P S)
def p_read (f : xF) (P : RS) (ss : xS) (s : Int32) : Int32 × xF := if q_in s 0 3 then (if (ss s.toNatClampNeg).1 = 0 then (-1000000006, q_tel f 5) else (nI (q_cnt (q_so P (ss s.toNatClampNeg)) (2 ^ P.2.1)), f)) else (-1000000001, q_tel f 0)
def p_undo (f : xF) (P K : RS) (kp : Bool) : Int32 × xF × RS := if kp then (nI K.2.1, f, K) else (-1000000004, q_tel f 3, P)
def p_count (f : xF) (P : RS) (tp : TS) (w : Int32) : Int32 × xF := if w = 0 then (nI P.2.1, f) else if w = 1 then (nI P.2.2.1, f) else if w = 2 then (nI tp.2.1, f) else if w = 3 then (q_sum (rs P) P.2.1, f) else if w = 4 then (q_sum (rpa P) P.2.2.1, f) else (-1000000001, q_tel f 0)
def p_status (f : xF) (w : Int32) : Int32 × xF := if w = -1 then (q_sum f 7, f) else if q_in w 0 6 then (f w.toNatClampNeg, f) else (-1000000001, q_tel f 0)
theorem q_in_6 (s : Int32) : (∃ k, k < 7 ∧ s = nI k) ∨ q_in s 0 6 = false := by
  rcases q_ix_or s (n := 7) (by decide) with ⟨j, hj, e⟩ | h
  · exact Or.inl ⟨j, hj, e⟩
  · right
    unfold q_ix at h
    rw [show nI 7 - 1 = (6 : Int32) by decide] at h
    exact h
theorem q_in_6_t {k : Nat} (hk : k < 7) : q_in (nI k) 0 6 = true := by
  have h := q_ix_t (j := k) (n := 7) hk (by decide)
  unfold q_ix at h
  rw [show nI 7 - 1 = (6 : Int32) by decide] at h
  exact h
section zSheets
variable {g : Nat → Nat → Nat} {a : Nat → Nat} {f : Nat → Int32} {P K T : RS} {tp : TS} {ss : Nat → SS} {es : Nat → Int32} {kp : Bool}
theorem z4 {p : Nat → Prop} (h0 : p 0) (h1 : p 1) (h2 : p 2) (h3 : p 3) : ∀ {k : Nat}, k < 4 → p k
  | 0, _ => h0
  | 1, _ => h1
  | 2, _ => h2
  | 3, _ => h3
theorem zL_s {k : Nat} (hk : k < 4) : ∀ {S2 : SS}, zL (xW g a f P K T tp ss es kp) (sW g (fun j => a (32 + 2 * k + j)) (ss k)) (sW g (fun j => a (32 + 2 * k + j)) S2) (xW g a f P K T tp (q_ssU ss k S2) es kp) :=
  z4 (p := fun k => ∀ {S2 : SS}, zL (xW g a f P K T tp ss es kp) (sW g (fun j => a (32 + 2 * k + j)) (ss k)) (sW g (fun j => a (32 + 2 * k + j)) S2) (xW g a f P K T tp (q_ssU ss k S2) es kp)) zL_s0 zL_s1 zL_s2 zL_s3 hk
theorem xW_sh {k : Nat} (hk : k < 4) : (xW g a f P K T tp ss es kp)[32 + 2 * k]? = some (a (32 + 2 * k), .inr (1, [.int (ss k).1, .int (nI (ss k).2.1), .ref (a (33 + 2 * k))])) :=
  z4 (p := fun k => (xW g a f P K T tp ss es kp)[32 + 2 * k]? = some (a (32 + 2 * k), .inr (1, [.int (ss k).1, .int (nI (ss k).2.1), .ref (a (33 + 2 * k))]))) rfl rfl rfl rfl hk
theorem xW_sn {k : Nat} (hk : k < 4) : (xW g a f P K T tp ss es kp)[33 + 2 * k]? = some (a (33 + 2 * k), .inl (g 0 1, 40, .inr (.inl (ss k).2.2))) :=
  z4 (p := fun k => (xW g a f P K T tp ss es kp)[33 + 2 * k]? = some (a (33 + 2 * k), .inl (g 0 1, 40, .inr (.inl (ss k).2.2)))) rfl rfl rfl rfl hk
theorem xW_set {k : Nat} (hk : k < 4) (F : Nat → Int64) : (xW g a f P K T tp ss es kp).set (33 + 2 * k) (a (33 + 2 * k), .inl (g 0 1, 40, .inr (.inl F))) = xW g a f P K T tp (q_ssU ss k ((ss k).1, (ss k).2.1, F)) es kp :=
  z4 (p := fun k => (xW g a f P K T tp ss es kp).set (33 + 2 * k) (a (33 + 2 * k), .inl (g 0 1, 40, .inr (.inl F))) = xW g a f P K T tp (q_ssU ss k ((ss k).1, (ss k).2.1, F)) es kp) rfl rfl rfl rfl hk
end zSheets
