/-! ===== the worlds: a road, a sheet, a tape, the whole object, the reference ===== -/
abbrev RS : Type := Int32 × Nat × Nat × Nat × (Nat → Int32) × (Nat → Int32) × (Nat → Int32) × (Nat → Int32) × (Nat → Int32) × (Nat → Int32) × (Nat → Int32) × (Nat → Int32)
/-- hour, fellows, tasks, asleep; kinds, miles, goals, skills; sorts, miles, needs, pays -/
def rW (g : Nat → Nat → Nat) (b : Nat → Nat) (P : RS) : va_W := [(b 0, .inr (0, [.int P.1, .int (nI P.2.1), .int (nI P.2.2.1), .int (nI P.2.2.2.1), .ref (b 1), .ref (b 2), .ref (b 3), .ref (b 4), .ref (b 5), .ref (b 6), .ref (b 7), .ref (b 8)])),
  (b 1, .inl (g 0 0, 7, .inl P.2.2.2.2.1)), (b 2, .inl (g 0 0, 7, .inl P.2.2.2.2.2.1)), (b 3, .inl (g 0 0, 7, .inl P.2.2.2.2.2.2.1)), (b 4, .inl (g 0 0, 7, .inl P.2.2.2.2.2.2.2.1)),
  (b 5, .inl (g 0 0, 8, .inl P.2.2.2.2.2.2.2.2.1)), (b 6, .inl (g 0 0, 8, .inl P.2.2.2.2.2.2.2.2.2.1)), (b 7, .inl (g 0 0, 8, .inl P.2.2.2.2.2.2.2.2.2.2.1)), (b 8, .inl (g 0 0, 8, .inl P.2.2.2.2.2.2.2.2.2.2.2))]
abbrev SS : Type := Int32 × Nat × (Nat → Int64)
def sW (g : Nat → Nat → Nat) (b : Nat → Nat) (S : SS) : va_W := [(b 0, .inr (1, [.int S.1, .int (nI S.2.1), .ref (b 1)])), (b 1, .inl (g 0 1, 40, .inr (.inl S.2.2)))]
abbrev TS : Type := (Nat → Int32) × Nat × Nat × Nat × Nat × Int32
/-- bytes, size; token, start, end, number -/
def tW (g : Nat → Nat → Nat) (b : Nat → Nat) (T : TS) : va_W := [(b 0, .inr (2, [.ref (b 1), .int (nI T.2.1), .int (nI T.2.2.1), .int (nI T.2.2.2.1), .int (nI T.2.2.2.2.1), .int T.2.2.2.2.2])), (b 1, .inl (g 0 0, 120, .inl T.1))]
def xW (g : Nat → Nat → Nat) (a : Nat → Nat) (f : Nat → Int32) (P K T : RS) (tp : TS) (ss : Nat → SS) (es : Nat → Int32) (kp : Bool) : va_W :=
  [(a 0, .inr (3, [.ref (a 1), .ref (a 2), .ref (a 11), .ref (a 20), .ref (a 29), .ref (a 31), .ref (a 40), .int (zB kp)])), (a 1, .inl (g 0 0, 7, .inl f))] ++ rW g (fun j => a (2 + j)) P ++ rW g (fun j => a (11 + j)) K ++ rW g (fun j => a (20 + j)) T ++ tW g (fun j => a (29 + j)) tp ++
  [(a 31, .inl (g 0 2, 4, .inr (.inr (.inr (.inr (fun j => some (a (32 + 2 * j))))))))] ++ sW g (fun j => a (32 + j)) (ss 0) ++ sW g (fun j => a (34 + j)) (ss 1) ++ sW g (fun j => a (36 + j)) (ss 2) ++ sW g (fun j => a (38 + j)) (ss 3) ++ [(a 40, .inl (g 0 0, 128, .inl es))]
abbrev MS : Type := (Nat → Int32) × (Nat → Int32) × Nat × (Nat → Int32) × (Nat → Int32) × (Nat → Int64) × (Nat → Int32) × Nat × Int32 × Nat × Nat × Int64 × Int32 × Bool × (Nat → Int32) × (Nat → Int32) × (Nat → Int64) × (Nat → Int64) × (Nat → Int32) × (Nat → Int32) × Bool
/-- row, found, alone, tried, worth, shares, tape, tapeMany, sort, begins, tokenEnds, word, value, good, bitsOf, sizeOf, sheets, lent, image, before, isKept -/
def mW (g : Nat → Nat → Nat) (a : Nat → Nat) (M : MS) : va_W := [(a 0, .inr (4, [.ref (a 1), .ref (a 2), .int (nI M.2.2.1), .ref (a 3), .ref (a 4), .ref (a 5), .ref (a 6), .int (nI M.2.2.2.2.2.2.2.1), .int M.2.2.2.2.2.2.2.2.1, .int (nI M.2.2.2.2.2.2.2.2.2.1), .int (nI M.2.2.2.2.2.2.2.2.2.2.1), .long M.2.2.2.2.2.2.2.2.2.2.2.1, .int M.2.2.2.2.2.2.2.2.2.2.2.2.1, .int (zB M.2.2.2.2.2.2.2.2.2.2.2.2.2.1), .ref (a 7), .ref (a 8), .ref (a 9), .ref (a 10), .ref (a 11), .ref (a 12), .int (zB M.2.2.2.2.2.2.2.2.2.2.2.2.2.2.2.2.2.2.2.2)])),
  (a 1, .inl (g 0 0, 70, .inl M.1)), (a 2, .inl (g 0 0, 7, .inl M.2.1)), (a 3, .inl (g 0 0, 70, .inl M.2.2.2.1)), (a 4, .inl (g 0 0, 128, .inl M.2.2.2.2.1)), (a 5, .inl (g 0 1, 7, .inr (.inl M.2.2.2.2.2.1))), (a 6, .inl (g 0 0, 120, .inl M.2.2.2.2.2.2.1)),
  (a 7, .inl (g 0 0, 4, .inl M.2.2.2.2.2.2.2.2.2.2.2.2.2.2.1)), (a 8, .inl (g 0 0, 4, .inl M.2.2.2.2.2.2.2.2.2.2.2.2.2.2.2.1)), (a 9, .inl (g 0 1, 160, .inr (.inl M.2.2.2.2.2.2.2.2.2.2.2.2.2.2.2.2.1))), (a 10, .inl (g 0 1, 40, .inr (.inl M.2.2.2.2.2.2.2.2.2.2.2.2.2.2.2.2.2.1))),
  (a 11, .inl (g 0 0, 70, .inl M.2.2.2.2.2.2.2.2.2.2.2.2.2.2.2.2.2.2.1)), (a 12, .inl (g 0 0, 70, .inl M.2.2.2.2.2.2.2.2.2.2.2.2.2.2.2.2.2.2.2.1))]
/-! ===== the pure words ===== -/
def q_in (v lo hi : Int32) : Bool := !decide (v < lo) && !decide (hi < v)
def q_of (kd w : Int32) : Bool :=
  if kd = 0 then decide ((0 : Int32) = w) else if kd = 1 then decide ((1 : Int32) = w) || decide ((0 : Int32) = w) else if kd = 2 then decide ((2 : Int32) = w) || decide ((0 : Int32) = w) else if kd = 3 then decide ((3 : Int32) = w) || decide ((0 : Int32) = w)
  else if kd = 4 then decide ((4 : Int32) = w) || (decide ((1 : Int32) = w) || decide ((0 : Int32) = w)) else if kd = 5 then decide ((5 : Int32) = w) || (decide ((3 : Int32) = w) || decide ((0 : Int32) = w)) else false
def q_spo (kd : Int32) : Int32 := if kd = 2 then 3 else if kd = 1 then 5 else if kd = 4 then 5 else -1
def q_abs (x : Int32) : Int32 := if 0 ≤ x then x else 0 - x
def q_work (kd so sk : Int32) : Int32 :=
  if so = 0 then (if kd = 1 then 5 * sk else if kd = 4 then 2 * (5 * sk) else 1) else if so = 1 then (if kd = 2 then 6 * sk else 1) else if so = 2 then (if kd = 3 then 7 * sk else if kd = 5 then 7 * sk / 2 else 1)
  else if so = 3 then (if kd = 5 then 8 * sk else 1) else if so = 4 then (if kd = 4 then 0 else 2 * sk) else 0
def q_pace (kd : Int32) : Int32 := if kd = 1 then 3 else if kd = 4 then 6 else 1
def q_sum (f : Nat → Int32) : Nat → Int32
  | 0 => 0
  | j + 1 => q_sum f j + f j
def q_mask (f : Nat → Bool) : Nat → Nat
  | 0 => 0
  | j + 1 => if f j then q_mask f j ||| 2 ^ j else q_mask f j
/-! sets as numbers -/
theorem zshl1 {j : Nat} (hj : j < 31) : (1 : Int32) <<< (nI j &&& 31) = nI (2 ^ j) := by
  have h : ∀ j : Fin 31, (1 : Int32) <<< (nI j.val &&& 31) = nI (2 ^ j.val) := by decide +kernel
  exact h ⟨j, hj⟩
theorem zor (a b : Nat) : nI a ||| nI b = nI (a ||| b) := by
  unfold nI
  apply Int32.toBitVec_inj.mp
  apply BitVec.eq_of_toNat_eq
  simp only [Int32.toBitVec_or, BitVec.toNat_or]
  show (BitVec.ofNat 32 a).toNat ||| (BitVec.ofNat 32 b).toNat = (BitVec.ofNat 32 (a ||| b)).toNat
  simp only [BitVec.toNat_ofNat]
  exact (Nat.or_mod_two_pow).symm
theorem zand (a b : Nat) : nI a &&& nI b = nI (a &&& b) := by
  unfold nI
  apply Int32.toBitVec_inj.mp
  apply BitVec.eq_of_toNat_eq
  simp only [Int32.toBitVec_and, BitVec.toNat_and]
  show (BitVec.ofNat 32 a).toNat &&& (BitVec.ofNat 32 b).toNat = (BitVec.ofNat 32 (a &&& b)).toNat
  simp only [BitVec.toNat_ofNat]
  exact (Nat.and_mod_two_pow).symm
theorem zhas {a j : Nat} (ha : a < 2 ^ 31) (hj : j < 31) : ((nI a >>> (nI j &&& 31)) &&& 1 = 1) ↔ a.testBit j = true := by
  have h31 : ∀ j : Fin 31, ((nI j.val &&& 31).toBitVec.smod 32).toNat = j.val := by decide +kernel
  rw [pk_shrN ha _ j (h31 ⟨j, hj⟩)]
  have e1 : (1 : Int32) = nI 1 := rfl
  rw [e1, zand]
  have hlt : a / 2 ^ j < 2 ^ 31 := Nat.lt_of_le_of_lt (Nat.div_le_self _ _) ha
  rw [nI_eq (by have := Nat.and_le_right (n := a / 2 ^ j) (m := 1); omega) (by decide), Nat.testBit_eq_decide_div_mod_eq, decide_eq_true_eq, show a / 2 ^ j &&& 1 = a / 2 ^ j % 2 from Nat.and_one_is_mod _]
theorem zk6 (k : Int32) : k = 0 ∨ k = 1 ∨ k = 2 ∨ k = 3 ∨ k = 4 ∨ k = 5 ∨ (k < 0 ∨ 6 ≤ k) := by
  by_cases h0 : k < 0
  · exact Or.inr (Or.inr (Or.inr (Or.inr (Or.inr (Or.inr (Or.inl h0))))))
  · obtain ⟨j, hj, rfl⟩ := nI_of h0
    by_cases h6 : j < 6
    · have h : j = 0 ∨ j = 1 ∨ j = 2 ∨ j = 3 ∨ j = 4 ∨ j = 5 := by omega
      rcases h with rfl | rfl | rfl | rfl | rfl | rfl
      · exact Or.inl rfl
      · exact Or.inr (Or.inl rfl)
      · exact Or.inr (Or.inr (Or.inl rfl))
      · exact Or.inr (Or.inr (Or.inr (Or.inl rfl)))
      · exact Or.inr (Or.inr (Or.inr (Or.inr (Or.inl rfl))))
      · exact Or.inr (Or.inr (Or.inr (Or.inr (Or.inr (Or.inl rfl)))))
    · exact Or.inr (Or.inr (Or.inr (Or.inr (Or.inr (Or.inr (Or.inr (nI_le (a := 6) (by omega) hj)))))))
theorem q_of_out {k w : Int32} (h : k < 0 ∨ 6 ≤ k) : q_of k w = false := by
  have n : ∀ v : Int32, ¬ v < 0 → ¬ 6 ≤ v → ¬ k = v := fun v h1 h2 e => by
    subst e
    exact h.elim h1 h2
  simp [q_of, n 0 (by decide) (by decide), n 1 (by decide) (by decide), n 2 (by decide) (by decide), n 3 (by decide) (by decide), n 4 (by decide) (by decide), n 5 (by decide) (by decide)]
