theorem q_ssU_k (ss : Nat → SS) (k : Nat) (S : SS) : q_ssU ss k S k = S := if_pos rfl
theorem q_ssU_2 (ss : Nat → SS) (k : Nat) (S S2 : SS) : q_ssU (q_ssU ss k S) k S2 = q_ssU ss k S2 := by
  funext j
  unfold q_ssU
  by_cases h : j = k
  · rw [if_pos h, if_pos h]
  · rw [if_neg h, if_neg h, if_neg h]
theorem q_ssU_id (ss : Nat → SS) (k : Nat) : q_ssU ss k (ss k) = ss := by
  funext j
  unfold q_ssU
  by_cases h : j = k
  · rw [if_pos h, h]
  · rw [if_neg h]
theorem zL_sr {g : Nat → Nat → Nat} {a : Nat → Nat} {f : Nat → Int32} {P K T : RS} {tp : TS} {ss : Nat → SS} {es : Nat → Int32} {kp : Bool} {k : Nat} (hk : k < 4) : zL (xW g a f P K T tp ss es kp) (sW g (fun j => a (32 + 2 * k + j)) (ss k)) (sW g (fun j => a (32 + 2 * k + j)) (ss k)) (xW g a f P K T tp ss es kp) := by
  have h := zL_s (g := g) (a := a) (f := f) (P := P) (K := K) (T := T) (tp := tp) (ss := ss) (es := es) (kp := kp) hk (S2 := ss k)
  rw [q_ssU_id] at h
  exact h
theorem q_in_nat {i : Int32} {n : Nat} (hn : n ≤ 100) (h : q_in i 0 (nI n - 1) = true) : ∃ m, m < n ∧ i = nI m := by
  unfold q_in at h
  simp only [Bool.and_eq_true, Bool.not_eq_true', decide_eq_false_iff_not] at h
  obtain ⟨j, hj, e⟩ := nI_of h.1
  refine ⟨j, ?_, e⟩
  have h2 := h.2
  rw [e] at h2
  rcases Nat.eq_zero_or_pos n with rfl | hp
  · exfalso
    apply h2
    rw [show nI 0 - 1 = (-1 : Int32) by decide, Int32.lt_iff_toInt_lt, nI_toInt hj]
    have : (-1 : Int32).toInt = -1 := by decide
    omega
  · rw [zsub1 hp] at h2
    rcases Nat.lt_or_ge j n with q | q
    · exact q
    · exact absurd (nI_lt (a := n - 1) (b := j) (by omega) hj) h2
theorem q_in_sh2 (s t : Int32) : (∃ k m, k < 4 ∧ m < 4 ∧ s = nI k ∧ t = nI m) ∨ (q_in s 0 3 = true ∧ q_in t 0 3 = false) ∨ q_in s 0 3 = false := by
  rcases q_in_sh s with ⟨k, hk, e⟩ | h
  · rcases q_in_sh t with ⟨m, hm, e2⟩ | h2
    · exact Or.inl ⟨k, m, hk, hm, e, e2⟩
    · exact Or.inr (Or.inl ⟨by rw [e]; exact q_in_sh_t hk, h2⟩)
  · exact Or.inr (Or.inr h)
theorem q_cmp_le {x y : Int64} (h : ¬ 0 < lg_cmp x y) : ¬ y < x := by
  intro q
  apply h
  unfold lg_cmp
  simp [q]
theorem q_holds_le {S : SS} {fr n : Int32} (hS : S.2.1 ≤ 40) (h : q_holds S fr n = true) : ¬ fr < 0 ∧ ¬ n < 0 ∧ fr.toNatClampNeg + n.toNatClampNeg ≤ S.2.1 := by
  unfold q_holds at h
  simp only [Bool.and_eq_true, Bool.not_eq_true', decide_eq_false_iff_not] at h
  obtain ⟨h1, h2, h3⟩ := h
  refine ⟨h1, h2, ?_⟩
  obtain ⟨p, hp, rfl⟩ := nI_of h1
  obtain ⟨q, hq, rfl⟩ := nI_of h2
  have h4 := q_cmp_le h3
  rw [nI_l hp, nI_l hq, nI_l (by omega), lN_add, pk_lLT (by omega) (by omega)] at h4
  rw [nI_clamp hp, nI_clamp hq]
  omega
theorem zmin {n m : Nat} (h : n < 2 ^ 31) (hm : m < 2 ^ 31) : q_min (nI n) (nI m) = nI (min n m) := by
  unfold q_min
  by_cases c : m < n
  · rw [if_pos (nI_lt c h), Nat.min_eq_right (by omega)]
  · rw [if_neg (nI_nlt (by omega) hm), Nat.min_eq_left (by omega)]
theorem q_told_lt {P : RS} {S : SS} (h : P.2.2.1 ≤ 8) : q_told P S < 256 := by
  unfold q_told
  have : 2 ^ (min S.2.1 P.2.2.1) ≤ 2 ^ 8 := Nat.pow_le_pow_right (by decide) (by omega)
  omega
theorem zL_found {g : Nat → Nat → Nat} {a : Nat → Nat} {f : Nat → Int32} {P K T : RS} {tp : TS} {ss : Nat → SS} {es : Nat → Int32} {kp : Bool} : zL (xW g a f P K T tp ss es kp) [(a 1, .inl (g 0 0, 7, .inl f))] [(a 1, .inl (g 0 0, 7, .inl f))] (xW g a f P K T tp ss es kp) := by
  have h := zL.app (wc := [(a 1, .inl (g 0 0, 7, .inl f))]) (wc' := [(a 1, .inl (g 0 0, 7, .inl f))]) [((a 0, .inr (3, [.ref (a 1), .ref (a 2), .ref (a 11), .ref (a 20), .ref (a 29), .ref (a 31), .ref (a 40), .int (zB kp)])) : Nat × va_E)] (rW g (fun j => a (2 + j)) P ++ (rW g (fun j => a (11 + j)) K ++ (rW g (fun j => a (20 + j)) T ++ (tW g (fun j => a (29 + j)) tp ++ ([((a 31, .inl (g 0 2, 4, .inr (.inr (.inr (.inr (fun j => some (a (32 + 2 * j)))))))) : Nat × va_E)] ++ (sW g (fun j => a (32 + j)) (ss 0) ++ (sW g (fun j => a (34 + j)) (ss 1) ++ (sW g (fun j => a (36 + j)) (ss 2) ++ (sW g (fun j => a (38 + j)) (ss 3) ++ ([((a 40, .inl (g 0 0, 128, .inl es)) : Nat × va_E)])))))))))) rfl
  simp only [xW, List.append_assoc]
  exact h
theorem zL_skills {g : Nat → Nat → Nat} {a : Nat → Nat} {f : Nat → Int32} {P K T : RS} {tp : TS} {ss : Nat → SS} {es : Nat → Int32} {kp : Bool} : zL (xW g a f P K T tp ss es kp) [(a 6, .inl (g 0 0, 7, .inl P.2.2.2.2.2.2.2.1))] [(a 6, .inl (g 0 0, 7, .inl P.2.2.2.2.2.2.2.1))] (xW g a f P K T tp ss es kp) := by
  have h := zL.app (wc := [(a 6, .inl (g 0 0, 7, .inl P.2.2.2.2.2.2.2.1))]) (wc' := [(a 6, .inl (g 0 0, 7, .inl P.2.2.2.2.2.2.2.1))]) [((a 0, .inr (3, [.ref (a 1), .ref (a 2), .ref (a 11), .ref (a 20), .ref (a 29), .ref (a 31), .ref (a 40), .int (zB kp)])) : Nat × va_E), ((a 1, .inl (g 0 0, 7, .inl f)) : Nat × va_E), ((a (2 + 0), .inr (0, [.int P.1, .int (nI P.2.1), .int (nI P.2.2.1), .int (nI P.2.2.2.1), .ref (a (2 + 1)), .ref (a (2 + 2)), .ref (a (2 + 3)), .ref (a (2 + 4)), .ref (a (2 + 5)), .ref (a (2 + 6)), .ref (a (2 + 7)), .ref (a (2 + 8))])) : Nat × va_E), ((a (2 + 1), .inl (g 0 0, 7, .inl P.2.2.2.2.1)) : Nat × va_E), ((a (2 + 2), .inl (g 0 0, 7, .inl P.2.2.2.2.2.1)) : Nat × va_E), ((a (2 + 3), .inl (g 0 0, 7, .inl P.2.2.2.2.2.2.1)) : Nat × va_E)] ([((a (2 + 5), .inl (g 0 0, 8, .inl P.2.2.2.2.2.2.2.2.1)) : Nat × va_E), ((a (2 + 6), .inl (g 0 0, 8, .inl P.2.2.2.2.2.2.2.2.2.1)) : Nat × va_E), ((a (2 + 7), .inl (g 0 0, 8, .inl P.2.2.2.2.2.2.2.2.2.2.1)) : Nat × va_E), ((a (2 + 8), .inl (g 0 0, 8, .inl P.2.2.2.2.2.2.2.2.2.2.2)) : Nat × va_E)] ++ (rW g (fun j => a (11 + j)) K ++ (rW g (fun j => a (20 + j)) T ++ (tW g (fun j => a (29 + j)) tp ++ ([((a 31, .inl (g 0 2, 4, .inr (.inr (.inr (.inr (fun j => some (a (32 + 2 * j)))))))) : Nat × va_E)] ++ (sW g (fun j => a (32 + j)) (ss 0) ++ (sW g (fun j => a (34 + j)) (ss 1) ++ (sW g (fun j => a (36 + j)) (ss 2) ++ (sW g (fun j => a (38 + j)) (ss 3) ++ ([((a 40, .inl (g 0 0, 128, .inl es)) : Nat × va_E)])))))))))) rfl
  simp only [xW, List.append_assoc]
  exact h
theorem zL_pays {g : Nat → Nat → Nat} {a : Nat → Nat} {f : Nat → Int32} {P K T : RS} {tp : TS} {ss : Nat → SS} {es : Nat → Int32} {kp : Bool} : zL (xW g a f P K T tp ss es kp) [(a 10, .inl (g 0 0, 8, .inl P.2.2.2.2.2.2.2.2.2.2.2))] [(a 10, .inl (g 0 0, 8, .inl P.2.2.2.2.2.2.2.2.2.2.2))] (xW g a f P K T tp ss es kp) := by
  have h := zL.app (wc := [(a 10, .inl (g 0 0, 8, .inl P.2.2.2.2.2.2.2.2.2.2.2))]) (wc' := [(a 10, .inl (g 0 0, 8, .inl P.2.2.2.2.2.2.2.2.2.2.2))]) [((a 0, .inr (3, [.ref (a 1), .ref (a 2), .ref (a 11), .ref (a 20), .ref (a 29), .ref (a 31), .ref (a 40), .int (zB kp)])) : Nat × va_E), ((a 1, .inl (g 0 0, 7, .inl f)) : Nat × va_E), ((a (2 + 0), .inr (0, [.int P.1, .int (nI P.2.1), .int (nI P.2.2.1), .int (nI P.2.2.2.1), .ref (a (2 + 1)), .ref (a (2 + 2)), .ref (a (2 + 3)), .ref (a (2 + 4)), .ref (a (2 + 5)), .ref (a (2 + 6)), .ref (a (2 + 7)), .ref (a (2 + 8))])) : Nat × va_E), ((a (2 + 1), .inl (g 0 0, 7, .inl P.2.2.2.2.1)) : Nat × va_E), ((a (2 + 2), .inl (g 0 0, 7, .inl P.2.2.2.2.2.1)) : Nat × va_E), ((a (2 + 3), .inl (g 0 0, 7, .inl P.2.2.2.2.2.2.1)) : Nat × va_E), ((a (2 + 4), .inl (g 0 0, 7, .inl P.2.2.2.2.2.2.2.1)) : Nat × va_E), ((a (2 + 5), .inl (g 0 0, 8, .inl P.2.2.2.2.2.2.2.2.1)) : Nat × va_E), ((a (2 + 6), .inl (g 0 0, 8, .inl P.2.2.2.2.2.2.2.2.2.1)) : Nat × va_E), ((a (2 + 7), .inl (g 0 0, 8, .inl P.2.2.2.2.2.2.2.2.2.2.1)) : Nat × va_E)] (rW g (fun j => a (11 + j)) K ++ (rW g (fun j => a (20 + j)) T ++ (tW g (fun j => a (29 + j)) tp ++ ([((a 31, .inl (g 0 2, 4, .inr (.inr (.inr (.inr (fun j => some (a (32 + 2 * j)))))))) : Nat × va_E)] ++ (sW g (fun j => a (32 + j)) (ss 0) ++ (sW g (fun j => a (34 + j)) (ss 1) ++ (sW g (fun j => a (36 + j)) (ss 2) ++ (sW g (fun j => a (38 + j)) (ss 3) ++ ([((a 40, .inl (g 0 0, 128, .inl es)) : Nat × va_E)]))))))))) rfl
  simp only [xW, List.append_assoc]
  exact h
