abbrev MX : Type := (Nat → Int32) × (Nat → Int32) × (Nat → Int64) × (Nat → Int32) × Nat × Int32 × Nat × Nat × Int64 × Int32 × Bool × (Nat → Int32) × (Nat → Int32) × (Nat → Int64) × (Nat → Int64) × (Nat → Int32) × (Nat → Int32) × Bool
def q_stp (r : Nat → Int32) (p : Nat) : Int32 := if (if r (3 + 5 * p + 4) = 1 then 0 else r (3 + 5 * p + 2) - r (3 + 5 * p + 1)) ≤ q_pace (r (3 + 5 * p + 0)) then (if -(q_pace (r (3 + 5 * p + 0))) ≤ (if r (3 + 5 * p + 4) = 1 then 0 else r (3 + 5 * p + 2) - r (3 + 5 * p + 1)) then (if r (3 + 5 * p + 4) = 1 then 0 else r (3 + 5 * p + 2) - r (3 + 5 * p + 1)) else -(q_pace (r (3 + 5 * p + 0)))) else q_pace (r (3 + 5 * p + 0))
/-- the row, an hour on, for the first fellows -/
def q_hr (r : Nat → Int32) : Nat → Nat → Int32
  | 0 => r
  | j + 1 => upd (q_hr r j) (3 + 5 * j + 1) (q_hr r j (3 + 5 * j + 1) + q_stp (q_hr r j) j)
theorem q_hr_1 (r : Nat → Int32) : ∀ j, q_hr r j 1 = r 1
  | 0 => rfl
  | j + 1 => by
    rw [q_hr]
    unfold upd
    rw [if_neg (by omega)]
    exact q_hr_1 r j
def q_sp (m : Nat → Int32) : Nat → Int32 × Int32
  | 0 => (30, 0)
  | j + 1 => (if (q_sp m j).1 ≤ m j then (q_sp m j).1 else m j, if m j ≤ (q_sp m j).2 then (q_sp m j).2 else m j)
theorem zsl {b : Bool} {p : Nat} (hp : p < 31) : zB b <<< (nI p &&& 31) = nI (if b then 2 ^ p else 0) := by
  cases b
  · rw [zB_f, show (0 : Int32) = nI 0 from rfl]
    have h : ∀ j : Fin 31, nI 0 <<< (nI j.val &&& 31) = nI 0 := by decide +kernel
    exact h ⟨p, hp⟩
  · exact zshl1 hp
theorem q_mask_all {z : Nat} {n : Nat} (h : z < 2 ^ n) : q_mask (fun i => z.testBit i) n = z := by
  apply Nat.eq_of_testBit_eq
  intro i
  rw [q_mask_tb]
  by_cases hi : i < n
  · rw [decide_eq_true hi]; rfl
  · rw [decide_eq_false hi, Nat.testBit_lt_two_pow (Nat.lt_of_lt_of_le h (Nat.pow_le_pow_right (by decide) (by omega)))]
    rfl
theorem q_mask_or {z j : Nat} : q_mask (fun i => z.testBit i) j ||| (if z.testBit j then 2 ^ j else 0) = q_mask (fun i => z.testBit i) (j + 1) := by
  rw [q_mask]
  by_cases h : z.testBit j = true
  · rw [if_pos h, if_pos h]
  · rw [if_neg h, if_neg h, Nat.or_zero]
def q_mv (s r : Nat → Int32) (j : Nat) : Nat → Int32 := fun x => if x < j then s x else r x
theorem q_mv_0 (s r : Nat → Int32) : q_mv s r 0 = r := by
  funext x
  unfold q_mv
  rw [if_neg (Nat.not_lt_zero x)]
theorem q_mv_s (s r : Nat → Int32) (j : Nat) : upd (q_mv s r j) j (s j) = q_mv s r (j + 1) := by
  funext x
  unfold q_mv upd
  by_cases h : x = j
  · rw [if_pos h, if_pos (by omega), h]
  · rw [if_neg h]
    dsimp only
    by_cases h2 : x < j
    · rw [if_pos h2, if_pos (by omega)]
    · rw [if_neg h2, if_neg (by omega)]
/-- the row with one fellow more -/
def q_ad (r : Nat → Int32) (n : Nat) (k m gl s z : Int32) : Nat → Int32 := upd (upd (upd (upd (upd (upd r (3 + 5 * n + 0) k) (3 + 5 * n + 1) m) (3 + 5 * n + 2) gl) (3 + 5 * n + 3) s) (3 + 5 * n + 4) z) 1 (nI (n + 1))
def q_at (r : Nat → Int32) (t : Nat) (so m ne pa : Int32) : Nat → Int32 := upd (upd (upd (upd (upd r (38 + 4 * t + 0) so) (38 + 4 * t + 1) m) (38 + 4 * t + 2) ne) (38 + 4 * t + 3) pa) 2 (nI (t + 1))
theorem upd_ne {r : Nat → Int32} {i j : Nat} {v : Int32} (h : ¬ j = i) : upd r i v j = r j := if_neg h
theorem upd_eq (r : Nat → Int32) (i : Nat) (v : Int32) : upd r i v i = v := if_pos rfl
/-- the reference's world, each part by itself -/
def mV (g : Nat → Nat → Nat) (a : Nat → Nat) (x0 : Nat → Int32) (x1 : Nat → Int32) (x2 : Nat) (x3 : Nat → Int32) (x4 : Nat → Int32) (x5 : Nat → Int64) (x6 : Nat → Int32) (x7 : Nat) (x8 : Int32) (x9 : Nat) (x10 : Nat) (x11 : Int64) (x12 : Int32) (x13 : Bool) (x14 : Nat → Int32) (x15 : Nat → Int32) (x16 : Nat → Int64) (x17 : Nat → Int64) (x18 : Nat → Int32) (x19 : Nat → Int32) (x20 : Bool) : va_W := [(a 0, .inr (4, [.ref (a 1), .ref (a 2), .int (nI x2), .ref (a 3), .ref (a 4), .ref (a 5), .ref (a 6), .int (nI x7), .int x8, .int (nI x9), .int (nI x10), .long x11, .int x12, .int (zB x13), .ref (a 7), .ref (a 8), .ref (a 9), .ref (a 10), .ref (a 11), .ref (a 12), .int (zB x20)])),
  (a 1, .inl (g 0 0, 70, .inl x0)), (a 2, .inl (g 0 0, 7, .inl x1)), (a 3, .inl (g 0 0, 70, .inl x3)), (a 4, .inl (g 0 0, 128, .inl x4)), (a 5, .inl (g 0 1, 7, .inr (.inl x5))), (a 6, .inl (g 0 0, 120, .inl x6)),
  (a 7, .inl (g 0 0, 4, .inl x14)), (a 8, .inl (g 0 0, 4, .inl x15)), (a 9, .inl (g 0 1, 160, .inr (.inl x16))), (a 10, .inl (g 0 1, 40, .inr (.inl x17))),
  (a 11, .inl (g 0 0, 70, .inl x18)), (a 12, .inl (g 0 0, 70, .inl x19))]
theorem mV_mW {g : Nat → Nat → Nat} {a : Nat → Nat} {x0 : Nat → Int32} {x1 : Nat → Int32} {x2 : Nat} {x3 : Nat → Int32} {x4 : Nat → Int32} {x5 : Nat → Int64} {x6 : Nat → Int32} {x7 : Nat} {x8 : Int32} {x9 : Nat} {x10 : Nat} {x11 : Int64} {x12 : Int32} {x13 : Bool} {x14 : Nat → Int32} {x15 : Nat → Int32} {x16 : Nat → Int64} {x17 : Nat → Int64} {x18 : Nat → Int32} {x19 : Nat → Int32} {x20 : Bool} : mW g a (x0, x1, x2, x3, x4, x5, x6, x7, x8, x9, x10, x11, x12, x13, x14, x15, x16, x17, x18, x19, x20) = mV g a x0 x1 x2 x3 x4 x5 x6 x7 x8 x9 x10 x11 x12 x13 x14 x15 x16 x17 x18 x19 x20 := rfl
theorem zL_mv {g : Nat → Nat → Nat} {a : Nat → Nat} {x0 : Nat → Int32} {x1 : Nat → Int32} {x2 : Nat} {x3 : Nat → Int32} {x4 : Nat → Int32} {x5 : Nat → Int64} {x6 : Nat → Int32} {x7 : Nat} {x8 : Int32} {x9 : Nat} {x10 : Nat} {x11 : Int64} {x12 : Int32} {x13 : Bool} {x14 : Nat → Int32} {x15 : Nat → Int32} {x16 : Nat → Int64} {x17 : Nat → Int64} {x18 : Nat → Int32} {x19 : Nat → Int32} {x20 : Bool} {y0 : Nat → Int32} {y1 : Nat → Int32} {y2 : Nat} {y3 : Nat → Int32} {y4 : Nat → Int32} {y5 : Nat → Int64} {y6 : Nat → Int32} {y7 : Nat} {y8 : Int32} {y9 : Nat} {y10 : Nat} {y11 : Int64} {y12 : Int32} {y13 : Bool} {y14 : Nat → Int32} {y15 : Nat → Int32} {y16 : Nat → Int64} {y17 : Nat → Int64} {y18 : Nat → Int32} {y19 : Nat → Int32} {y20 : Bool} : zL (mV g a x0 x1 x2 x3 x4 x5 x6 x7 x8 x9 x10 x11 x12 x13 x14 x15 x16 x17 x18 x19 x20) (mW g a (x0, x1, x2, x3, x4, x5, x6, x7, x8, x9, x10, x11, x12, x13, x14, x15, x16, x17, x18, x19, x20)) (mW g a (y0, y1, y2, y3, y4, y5, y6, y7, y8, y9, y10, y11, y12, y13, y14, y15, y16, y17, y18, y19, y20)) (mV g a y0 y1 y2 y3 y4 y5 y6 y7 y8 y9 y10 y11 y12 y13 y14 y15 y16 y17 y18 y19 y20) := by
  rw [mV_mW, mV_mW]
  exact zL.id
