/-! ===== the row of a road ===== -/
def q_rw (P : RS) : Nat → Int32 := fun x => if x = 0 then P.1 else if x = 1 then nI P.2.1 else if x = 2 then nI P.2.2.1 else
  if x < 38 then (if (x - 3) % 5 = 0 then rk P ((x - 3) / 5) else if (x - 3) % 5 = 1 then rm P ((x - 3) / 5) else if (x - 3) % 5 = 2 then rg P ((x - 3) / 5) else if (x - 3) % 5 = 3 then rs P ((x - 3) / 5) else zB (P.2.2.2.1.testBit ((x - 3) / 5)))
  else (if (x - 38) % 4 = 0 then rso P ((x - 38) / 4) else if (x - 38) % 4 = 1 then rtm P ((x - 38) / 4) else if (x - 38) % 4 = 2 then rne P ((x - 38) / 4) else rpa P ((x - 38) / 4))
theorem zRo.rw {P : RS} {r : Nat → Int32} (h : zRo P r) : ∀ x, x < 70 → r x = q_rw P x := by
  intro x hx
  unfold q_rw
  by_cases h0 : x = 0
  · rw [if_pos h0, h0]; exact h.1
  · rw [if_neg h0]
    by_cases h1 : x = 1
    · rw [if_pos h1, h1]; exact h.2.1
    · rw [if_neg h1]
      by_cases h2 : x = 2
      · rw [if_pos h2, h2]; exact h.2.2.1
      · rw [if_neg h2]
        by_cases h3 : x < 38
        · rw [if_pos h3]
          obtain ⟨e0, e1, e2, e3, e4⟩ := h.2.2.2.1 ((x - 3) / 5) (by omega)
          by_cases c0 : (x - 3) % 5 = 0
          · rw [if_pos c0, ← e0]; congr 1; omega
          · rw [if_neg c0]
            by_cases c1 : (x - 3) % 5 = 1
            · rw [if_pos c1, ← e1]; congr 1; omega
            · rw [if_neg c1]
              by_cases c2 : (x - 3) % 5 = 2
              · rw [if_pos c2, ← e2]; congr 1; omega
              · rw [if_neg c2]
                by_cases c3 : (x - 3) % 5 = 3
                · rw [if_pos c3, ← e3]; congr 1; omega
                · rw [if_neg c3, ← e4]; congr 1; omega
        · rw [if_neg h3]
          obtain ⟨e0, e1, e2, e3⟩ := h.2.2.2.2 ((x - 38) / 4) (by omega)
          by_cases c0 : (x - 38) % 4 = 0
          · rw [if_pos c0, ← e0]; congr 1; omega
          · rw [if_neg c0]
            by_cases c1 : (x - 38) % 4 = 1
            · rw [if_pos c1, ← e1]; congr 1; omega
            · rw [if_neg c1]
              by_cases c2 : (x - 38) % 4 = 2
              · rw [if_pos c2, ← e2]; congr 1; omega
              · rw [if_neg c2, ← e3]; congr 1; omega
theorem zRo.cg {P : RS} {r r' : Nat → Int32} (h : zRo P r) (e : ∀ x, x < 70 → r x = r' x) : zRo P r' :=
  ⟨(e 0 (by decide)).symm.trans h.1, (e 1 (by decide)).symm.trans h.2.1, (e 2 (by decide)).symm.trans h.2.2.1,
   fun p hp => ⟨(e _ (by omega)).symm.trans (h.2.2.2.1 p hp).1, (e _ (by omega)).symm.trans (h.2.2.2.1 p hp).2.1, (e _ (by omega)).symm.trans (h.2.2.2.1 p hp).2.2.1, (e _ (by omega)).symm.trans (h.2.2.2.1 p hp).2.2.2.1, (e _ (by omega)).symm.trans (h.2.2.2.1 p hp).2.2.2.2⟩,
   fun t ht => ⟨(e _ (by omega)).symm.trans (h.2.2.2.2 t ht).1, (e _ (by omega)).symm.trans (h.2.2.2.2 t ht).2.1, (e _ (by omega)).symm.trans (h.2.2.2.2 t ht).2.2.1, (e _ (by omega)).symm.trans (h.2.2.2.2 t ht).2.2.2⟩⟩
theorem zRo.crw {P : RS} {r : Nat → Int32} (h : zRo P r) : zRo P (q_rw P) := h.cg h.rw
/-- a road with one fellow more, all told -/
def q_adF (P : RS) (k m gl s : Int32) (z : Bool) : RS := (P.1, P.2.1 + 1, P.2.2.1, (if z then P.2.2.2.1 ||| 2 ^ P.2.1 else P.2.2.2.1), upd (rk P) P.2.1 k, upd (rm P) P.2.1 m, upd (rg P) P.2.1 gl, upd (rs P) P.2.1 s, rso P, rtm P, rne P, rpa P)
theorem q_add_F (P : RS) (k m : Int32) : q_add P k m = q_adF P k m m 3 false := rfl
theorem q_adF_G (P : RS) (k m gl s v : Int32) (z : Bool) : q_setG (q_adF P k m gl s z) P.2.1 v = q_adF P k m v s z := by
  unfold q_setG q_adF
  dsimp only [rk, rm, rg, rs, rso, rtm, rne, rpa]
  rw [upd_upd]
theorem q_adF_S (P : RS) (k m gl s v : Int32) (z : Bool) : q_setS (q_adF P k m gl s z) P.2.1 v = q_adF P k m gl v z := by
  unfold q_setS q_adF
  dsimp only [rk, rm, rg, rs, rso, rtm, rne, rpa]
  rw [upd_upd]
theorem q_adF_Z (P : RS) (k m gl s : Int32) : q_slp (q_adF P k m gl s false) P.2.1 true = q_adF P k m gl s true := rfl
theorem upd_at (f : Nat → Int32) (i : Nat) (v : Int32) (j : Nat) : upd f i v j = if j = i then v else f j := rfl
theorem zRo.ad {P : RS} {r : Nat → Int32} (h : zRo P r) (ha : P.2.2.2.1 < 2 ^ P.2.1) (h7 : P.2.1 < 7) (k m gl s : Int32) (z : Bool) : zRo (q_adF P k m gl s z) (q_ad r P.2.1 k m gl s (zB z)) := by
  have hz : ∀ q, q < 7 → (if z then P.2.2.2.1 ||| 2 ^ P.2.1 else P.2.2.2.1).testBit q = if q = P.2.1 then z else P.2.2.2.1.testBit q := by
    intro q hq
    have h0 : P.2.2.2.1.testBit P.2.1 = false := Nat.testBit_lt_two_pow ha
    cases z
    · rw [if_neg (by decide)]
      by_cases e : q = P.2.1
      · rw [if_pos e, e, h0]
      · rw [if_neg e]
    · rw [if_pos rfl, Nat.testBit_or, Nat.testBit_two_pow]
      by_cases e : q = P.2.1
      · rw [if_pos e, decide_eq_true e.symm, Bool.or_true]
      · rw [if_neg e, decide_eq_false (fun q => e q.symm), Bool.or_false]
  unfold q_ad
  refine ⟨?_, ?_, ?_, fun q hq => ?_, fun t ht => ?_⟩
  · simp only [upd_at]
    rw [if_neg (by omega), if_neg (by omega), if_neg (by omega), if_neg (by omega), if_neg (by omega), if_neg (by omega)]
    exact h.1
  · rw [upd_at, if_pos rfl]; rfl
  · simp only [upd_at]
    rw [if_neg (by omega), if_neg (by omega), if_neg (by omega), if_neg (by omega), if_neg (by omega), if_neg (by omega)]
    exact h.2.2.1
  · obtain ⟨e0, e1, e2, e3, e4⟩ := h.2.2.2.1 q hq
    show _ = upd (rk P) P.2.1 k q ∧ _ = upd (rm P) P.2.1 m q ∧ _ = upd (rg P) P.2.1 gl q ∧ _ = upd (rs P) P.2.1 s q ∧ _ = zB ((if z then P.2.2.2.1 ||| 2 ^ P.2.1 else P.2.2.2.1).testBit q)
    rw [hz q hq]
    simp only [upd_at]
    by_cases e : q = P.2.1
    · subst e
      simp
      intro q
      omega
    · have n1 : ∀ a b : Nat, a < 5 → b < 5 → ¬ 3 + 5 * q + a = 3 + 5 * P.2.1 + b := fun a b ha hb => by omega
      simp only [if_neg e]
      refine ⟨?_, ?_, ?_, ?_, ?_⟩
      · rw [if_neg (by omega), if_neg (n1 _ _ (by decide) (by decide)), if_neg (n1 _ _ (by decide) (by decide)), if_neg (n1 _ _ (by decide) (by decide)), if_neg (n1 _ _ (by decide) (by decide)), if_neg (n1 _ _ (by decide) (by decide))]; exact e0
      · rw [if_neg (by omega), if_neg (n1 _ _ (by decide) (by decide)), if_neg (n1 _ _ (by decide) (by decide)), if_neg (n1 _ _ (by decide) (by decide)), if_neg (n1 _ _ (by decide) (by decide)), if_neg (n1 _ _ (by decide) (by decide))]; exact e1
      · rw [if_neg (by omega), if_neg (n1 _ _ (by decide) (by decide)), if_neg (n1 _ _ (by decide) (by decide)), if_neg (n1 _ _ (by decide) (by decide)), if_neg (n1 _ _ (by decide) (by decide)), if_neg (n1 _ _ (by decide) (by decide))]; exact e2
      · rw [if_neg (by omega), if_neg (n1 _ _ (by decide) (by decide)), if_neg (n1 _ _ (by decide) (by decide)), if_neg (n1 _ _ (by decide) (by decide)), if_neg (n1 _ _ (by decide) (by decide)), if_neg (n1 _ _ (by decide) (by decide))]; exact e3
      · rw [if_neg (by omega), if_neg (n1 _ _ (by decide) (by decide)), if_neg (n1 _ _ (by decide) (by decide)), if_neg (n1 _ _ (by decide) (by decide)), if_neg (n1 _ _ (by decide) (by decide)), if_neg (n1 _ _ (by decide) (by decide))]; exact e4
  · obtain ⟨e0, e1, e2, e3⟩ := h.2.2.2.2 t ht
    simp only [upd_at]
    refine ⟨?_, ?_, ?_, ?_⟩
    · rw [if_neg (by omega), if_neg (by omega), if_neg (by omega), if_neg (by omega), if_neg (by omega), if_neg (by omega)]; exact e0
    · rw [if_neg (by omega), if_neg (by omega), if_neg (by omega), if_neg (by omega), if_neg (by omega), if_neg (by omega)]; exact e1
    · rw [if_neg (by omega), if_neg (by omega), if_neg (by omega), if_neg (by omega), if_neg (by omega), if_neg (by omega)]; exact e2
    · rw [if_neg (by omega), if_neg (by omega), if_neg (by omega), if_neg (by omega), if_neg (by omega), if_neg (by omega)]; exact e3
theorem zRo.adT {P : RS} {r : Nat → Int32} (h : zRo P r) (h8 : P.2.2.1 < 8) (so m ne pa : Int32) : zRo (q_addT P so m ne pa) (q_at r P.2.2.1 so m ne pa) := by
  unfold q_at
  refine ⟨?_, ?_, ?_, fun q hq => ?_, fun t ht => ?_⟩
  · simp only [upd_at]
    rw [if_neg (by omega), if_neg (by omega), if_neg (by omega), if_neg (by omega), if_neg (by omega)]
    exact h.1
  · simp only [upd_at]
    rw [if_neg (by omega), if_neg (by omega), if_neg (by omega), if_neg (by omega), if_neg (by omega)]
    exact h.2.1
  · rw [upd_at, if_pos rfl]; rfl
  · obtain ⟨e0, e1, e2, e3, e4⟩ := h.2.2.2.1 q hq
    simp only [upd_at]
    refine ⟨?_, ?_, ?_, ?_, ?_⟩
    · rw [if_neg (by omega), if_neg (by omega), if_neg (by omega), if_neg (by omega), if_neg (by omega)]; exact e0
    · rw [if_neg (by omega), if_neg (by omega), if_neg (by omega), if_neg (by omega), if_neg (by omega)]; exact e1
    · rw [if_neg (by omega), if_neg (by omega), if_neg (by omega), if_neg (by omega), if_neg (by omega)]; exact e2
    · rw [if_neg (by omega), if_neg (by omega), if_neg (by omega), if_neg (by omega), if_neg (by omega)]; exact e3
    · rw [if_neg (by omega), if_neg (by omega), if_neg (by omega), if_neg (by omega), if_neg (by omega)]; exact e4
  · obtain ⟨e0, e1, e2, e3⟩ := h.2.2.2.2 t ht
    show _ = upd (rso P) P.2.2.1 so t ∧ _ = upd (rtm P) P.2.2.1 m t ∧ _ = upd (rne P) P.2.2.1 ne t ∧ _ = upd (rpa P) P.2.2.1 pa t
    simp only [upd_at]
    by_cases e : t = P.2.2.1
    · subst e
      have z2 : ∀ a, ¬ 38 + 4 * P.2.2.1 + a = 2 := fun a => by omega
      simp [z2]
      intro q
      omega
    · have n1 : ∀ a b : Nat, a < 4 → b < 4 → ¬ 38 + 4 * t + a = 38 + 4 * P.2.2.1 + b := fun a b ha hb => by omega
      simp only [if_neg e]
      refine ⟨?_, ?_, ?_, ?_⟩
      · rw [if_neg (by omega), if_neg (n1 _ _ (by decide) (by decide)), if_neg (n1 _ _ (by decide) (by decide)), if_neg (n1 _ _ (by decide) (by decide)), if_neg (n1 _ _ (by decide) (by decide))]; exact e0
      · rw [if_neg (by omega), if_neg (n1 _ _ (by decide) (by decide)), if_neg (n1 _ _ (by decide) (by decide)), if_neg (n1 _ _ (by decide) (by decide)), if_neg (n1 _ _ (by decide) (by decide))]; exact e1
      · rw [if_neg (by omega), if_neg (n1 _ _ (by decide) (by decide)), if_neg (n1 _ _ (by decide) (by decide)), if_neg (n1 _ _ (by decide) (by decide)), if_neg (n1 _ _ (by decide) (by decide))]; exact e2
      · rw [if_neg (by omega), if_neg (n1 _ _ (by decide) (by decide)), if_neg (n1 _ _ (by decide) (by decide)), if_neg (n1 _ _ (by decide) (by decide)), if_neg (n1 _ _ (by decide) (by decide))]; exact e3
/-! ranges -/
theorem q_in_r {i : Int32} {lo hi : Nat} (hl : lo < 2 ^ 31) (hh : hi < 2 ^ 31) (h : q_in i (nI lo) (nI hi) = true) : ∃ m, lo ≤ m ∧ m ≤ hi ∧ i = nI m := by
  unfold q_in at h
  simp only [Bool.and_eq_true, Bool.not_eq_true', decide_eq_false_iff_not] at h
  have h0 : ¬ i < 0 := fun q => h.1 (Int32.lt_of_lt_of_le q (nI_pos' hl))
  obtain ⟨m, hm, rfl⟩ := nI_of h0
  refine ⟨m, ?_, ?_, rfl⟩
  · rcases Nat.lt_or_ge m lo with q | q
    · exact absurd (nI_lt q hl) h.1
    · exact q
  · rcases Nat.lt_or_ge hi m with q | q
    · exact absurd (nI_lt q hm) h.2
    · exact q
theorem q_isN_r {T : TS} {lo hi : Nat} (hl : lo < 2 ^ 31) (hh : hi < 2 ^ 31) (h : q_isN T (nI lo) (nI hi) = true) : ∃ m, lo ≤ m ∧ m ≤ hi ∧ T.2.2.2.2.2 = nI m := by
  unfold q_isN at h
  rw [Bool.and_eq_true] at h
  exact q_in_r hl hh h.2
theorem q_tkv_N {T : TS} {lo hi : Int32} (h : q_isN T lo hi = true) : q_tkv T = T.2.2.2.2.2 := by
  unfold q_isN at h
  rw [Bool.and_eq_true] at h
  unfold q_tkv
  rw [if_pos (of_decide_eq_true h.1)]
theorem zRg.ad {P : RS} (h : zRg P) {k m : Int32} (hk : ∃ c, c < 6 ∧ k = nI c) (hm : ∃ c, c < 31 ∧ m = nI c) : zRg (q_add P k m) := by
  refine ⟨?_, h.2.1, fun p hp => ?_, h.2.2.2⟩
  · show P.2.2.2.1 < 2 ^ (P.2.1 + 1)
    exact Nat.lt_trans h.1 (Nat.pow_lt_pow_right (by decide) (by omega))
  · show (∃ c, c < 6 ∧ upd (rk P) P.2.1 k p = nI c) ∧ (∃ c, c < 31 ∧ upd (rm P) P.2.1 m p = nI c) ∧ (∃ c, c < 31 ∧ upd (rg P) P.2.1 m p = nI c) ∧ (∃ s, 1 ≤ s ∧ s ≤ 9 ∧ upd (rs P) P.2.1 3 p = nI s)
    have hp' : p < P.2.1 + 1 := hp
    simp only [upd_at]
    by_cases e : p = P.2.1
    · simp only [if_pos e]
      exact ⟨hk, hm, hm, 3, by decide, by decide, rfl⟩
    · simp only [if_neg e]
      exact h.2.2.1 p (by omega)
theorem zRg.adT {P : RS} (h : zRg P) {so m ne pa : Int32} (h1 : ∃ c, c < 5 ∧ so = nI c) (h2 : ∃ c, c < 31 ∧ m = nI c) (h3 : ∃ e, 1 ≤ e ∧ e ≤ 99 ∧ ne = nI e) (h4 : ∃ y, y ≤ 99 ∧ pa = nI y) : zRg (q_addT P so m ne pa) := by
  refine ⟨h.1, h.2.1, h.2.2.1, fun t ht => ?_⟩
  show (∃ c, c < 5 ∧ upd (rso P) P.2.2.1 so t = nI c) ∧ (∃ c, c < 31 ∧ upd (rtm P) P.2.2.1 m t = nI c) ∧ (∃ e, 1 ≤ e ∧ e ≤ 99 ∧ upd (rne P) P.2.2.1 ne t = nI e) ∧ (∃ y, y ≤ 99 ∧ upd (rpa P) P.2.2.1 pa t = nI y)
  have ht' : t < P.2.2.1 + 1 := ht
  simp only [upd_at]
  by_cases e : t = P.2.2.1
  · simp only [if_pos e]
    exact ⟨h1, h2, h3, h4⟩
  · simp only [if_neg e]
    exact h.2.2.2 t (by omega)
theorem q_kind_r (T : TS) : q_kind T = -1 ∨ ∃ c, c < 6 ∧ q_kind T = nI c := by
  unfold q_kind
  split
  · exact Or.inr ⟨0, by decide, rfl⟩
  · split
    · exact Or.inr ⟨1, by decide, rfl⟩
    · split
      · exact Or.inr ⟨2, by decide, rfl⟩
      · split
        · exact Or.inr ⟨3, by decide, rfl⟩
        · split
          · exact Or.inr ⟨4, by decide, rfl⟩
          · split
            · exact Or.inr ⟨5, by decide, rfl⟩
            · exact Or.inl rfl
theorem q_sort_r (T : TS) : q_sort T = -1 ∨ ∃ c, c < 5 ∧ q_sort T = nI c := by
  unfold q_sort
  split
  · exact Or.inr ⟨0, by decide, rfl⟩
  · split
    · exact Or.inr ⟨1, by decide, rfl⟩
    · split
      · exact Or.inr ⟨2, by decide, rfl⟩
      · split
        · exact Or.inr ⟨3, by decide, rfl⟩
        · split
          · exact Or.inr ⟨4, by decide, rfl⟩
          · exact Or.inl rfl
theorem zRg_item {T : TS} {P : RS} (hG : zRg P) (hP : zPi P) : zRg (q_item T P).2.2 := by
  have m30 : ∀ T : TS, q_isN T 0 30 = true → ∃ c, c < 31 ∧ T.2.2.2.2.2 = nI c := fun T h => by
    obtain ⟨m, _, h2, e⟩ := q_isN_r (lo := 0) (hi := 30) (by decide) (by decide) h
    exact ⟨m, by omega, e⟩
  have s9 : ∀ T : TS, q_isN T 1 9 = true → ∃ c, 1 ≤ c ∧ c ≤ 9 ∧ T.2.2.2.2.2 = nI c := fun T h => q_isN_r (lo := 1) (hi := 9) (by decide) (by decide) h
  have f5 : ∀ (T : TS) (Q : RS) (i : Nat), zRg Q → Q.2.1 ≤ 7 → i < Q.2.1 → zRg (q_f5 T Q i).2.2 := by
    intro T Q i h1 h2 h3
    unfold q_f5
    split
    · exact h1.slp h2 h3 true
    · exact h1
  have f4 : ∀ (T : TS) (Q : RS) (i : Nat), zRg Q → Q.2.1 ≤ 7 → i < Q.2.1 → zRg (q_f4 T Q i).2.2 := by
    intro T Q i h1 h2 h3
    unfold q_f4
    split
    · split
      · rename_i hn
        exact f5 _ _ _ (h1.setS (s9 _ hn)) h2 h3
      · exact h1
    · exact f5 _ _ _ h1 h2 h3
  have f3 : ∀ (T : TS) (Q : RS) (i : Nat), zRg Q → Q.2.1 ≤ 7 → i < Q.2.1 → zRg (q_f3 T Q i).2.2 := by
    intro T Q i h1 h2 h3
    unfold q_f3
    split
    · split
      · rename_i hn
        exact f4 _ _ _ (h1.setG (m30 _ hn)) h2 h3
      · exact h1
    · exact f4 _ _ _ h1 h2 h3
  have f2 : ∀ (T : TS) (k : Int32), P.2.1 < 7 → (∃ c, c < 6 ∧ k = nI c) → zRg (q_f2 T P k).2.2 := by
    intro T k h7 hk
    unfold q_f2
    split
    · split
      · rename_i hn
        exact f3 _ _ _ (hG.ad hk (m30 _ hn)) h7 (Nat.lt_succ_self _)
      · exact hG
    · exact hG
  have t4 : ∀ (T : TS) (x y z : Int32), (∃ c, c < 5 ∧ x = nI c) → (∃ c, c < 31 ∧ y = nI c) → (∃ e, 1 ≤ e ∧ e ≤ 99 ∧ z = nI e) → zRg (q_t4 T P x y z).2.2 := by
    intro T x y z h1 h2 h3
    unfold q_t4
    split
    · split
      · rename_i hn
        obtain ⟨m, _, hm, e⟩ := q_isN_r (lo := 0) (hi := 99) (by decide) (by decide) hn
        exact hG.adT h1 h2 h3 ⟨m, hm, e⟩
      · exact hG
    · exact hG
  have t3 : ∀ (T : TS) (x y : Int32), (∃ c, c < 5 ∧ x = nI c) → (∃ c, c < 31 ∧ y = nI c) → zRg (q_t3 T P x y).2.2 := by
    intro T x y h1 h2
    unfold q_t3
    split
    · split
      · rename_i hn
        exact t4 _ _ _ _ h1 h2 (q_isN_r (lo := 1) (hi := 99) (by decide) (by decide) hn)
      · exact hG
    · exact hG
  have t2 : ∀ (T : TS) (x : Int32), (∃ c, c < 5 ∧ x = nI c) → zRg (q_t2 T P x).2.2 := by
    intro T x h1
    unfold q_t2
    split
    · split
      · rename_i hn
        exact t3 _ _ _ h1 (m30 _ hn)
      · exact hG
    · exact hG
  unfold q_item
  split
  · unfold q_tkT
    split
    · split
      · rename_i hs
        rcases q_sort_r (q_adv T) with e | e
        · rw [e] at hs; exact absurd hs (by decide)
        · exact t2 _ _ e
      · exact hG
    · exact hG
  · have s : ∀ c : Bool, zRg (q_tkS T P c).2.2 := by
      intro c
      unfold q_tkS
      split
      · rename_i h
        exact hG.slp hP.1 (q_isN_nat hP.1 h).1 c
      · exact hG
    split
    · exact s false
    · split
      · exact s true
      · unfold q_tkF
        split
        · exact hG
        · rename_i hk
          split
          · rename_i h7
            exact f2 _ _ h7 ((q_kind_r T).resolve_left hk)
          · exact hG
/-! what the reference makes of a fellow's words -/
def w_g1 (T : TS) : Bool := w_G true T 6 0 30 false
def w_t1 (T : TS) : TS := w_T true T 6 0 30
def w_v1 (T : TS) : Int32 := w_V true T 6 0
def w_g2 (T : TS) : Bool := w_G (w_g1 T) (w_t1 T) 17 0 30 (w_g1 T)
def w_t2 (T : TS) : TS := w_T (w_g1 T) (w_t1 T) 17 0 30
def w_v2 (T : TS) : Int32 := w_V (w_g1 T) (w_t1 T) 17 (w_v1 T)
def w_g3 (T : TS) : Bool := w_G (w_g2 T) (w_t2 T) 18 1 9 (w_g2 T)
def w_t3 (T : TS) : TS := w_T (w_g2 T) (w_t2 T) 18 1 9
def w_v3 (T : TS) : Int32 := w_V (w_g2 T) (w_t2 T) 18 3
def w_z (T : TS) : Bool := w_g3 T && q_isW (w_t3 T) 19
def w_t4 (T : TS) : TS := if w_z T = true then q_adv (w_t3 T) else w_t3 T
theorem w_fel (T : TS) (P : RS) (k : Int32) : (q_f2 T P k).1 = w_g3 T ∧ (q_f2 T P k).2.1 = w_t4 T ∧ (w_g3 T = true → (q_f2 T P k).2.2 = q_adF P k (w_v1 T) (w_v2 T) (w_v3 T) (w_z T)) := by
  by_cases a1 : q_isW T 6 = true
  · by_cases a2 : q_isN (q_adv T) 0 30 = true
    · have g1 : w_g1 T = true := by simp [w_g1, w_G, a1, a2]
      have t1 : w_t1 T = q_adv (q_adv T) := by simp [w_t1, w_T, a1, a2]
      have v1 : w_v1 T = (q_adv T).2.2.2.2.2 := by rw [← q_tkv_N a2]; simp [w_v1, w_V, a1]
      have e1 : q_f2 T P k = q_f3 (w_t1 T) (q_adF P k (w_v1 T) (w_v1 T) 3 false) P.2.1 := by
        rw [q_f2, if_pos a1, if_pos a2, q_add_F, t1, v1]
      rw [e1]
      clear e1 v1 t1 a1 a2
      by_cases b1 : q_isW (w_t1 T) 17 = true
      · by_cases b2 : q_isN (q_adv (w_t1 T)) 0 30 = true
        · have g2 : w_g2 T = true := by simp [w_g2, w_G, g1, b1, b2]
          have t2 : w_t2 T = q_adv (q_adv (w_t1 T)) := by simp [w_t2, w_T, g1, b1, b2]
          have v2 : w_v2 T = (q_adv (w_t1 T)).2.2.2.2.2 := by rw [← q_tkv_N b2]; simp [w_v2, w_V, g1, b1]
          have e1 : q_f3 (w_t1 T) (q_adF P k (w_v1 T) (w_v1 T) 3 false) P.2.1 = q_f4 (w_t2 T) (q_adF P k (w_v1 T) (w_v2 T) 3 false) P.2.1 := by
            rw [q_f3, if_pos b1, if_pos b2, q_adF_G, t2, v2]
          rw [e1]
          clear e1 v2 t2 b1 b2 g1
          by_cases c1 : q_isW (w_t2 T) 18 = true
          · by_cases c2 : q_isN (q_adv (w_t2 T)) 1 9 = true
            · have g3 : w_g3 T = true := by simp [w_g3, w_G, g2, c1, c2]
              have t3 : w_t3 T = q_adv (q_adv (w_t2 T)) := by simp [w_t3, w_T, g2, c1, c2]
              have v3 : w_v3 T = (q_adv (w_t2 T)).2.2.2.2.2 := by rw [← q_tkv_N c2]; simp [w_v3, w_V, g2, c1]
              rw [q_f4, if_pos c1, if_pos c2, q_adF_S, ← t3, ← v3, q_f5]
              by_cases d1 : q_isW (w_t3 T) 19 = true
              · simp [d1, w_t4, w_z, g3, q_adF_Z]
              · have d1 := Bool.eq_false_iff.mpr d1
                simp [d1, w_t4, w_z, g3]
            · have c2 := Bool.eq_false_iff.mpr c2
              have g3 : w_g3 T = false := by simp [w_g3, w_G, g2, c1, c2]
              have t3 : w_t3 T = q_adv (w_t2 T) := by simp [w_t3, w_T, g2, c1, c2]
              rw [q_f4, if_pos c1, if_neg (by rw [c2]; decide)]
              simp [w_t4, w_z, g3, t3]
          · have c1 := Bool.eq_false_iff.mpr c1
            have g3 : w_g3 T = true := by simp [w_g3, w_G, g2, c1]
            have t3 : w_t3 T = w_t2 T := by simp [w_t3, w_T, g2, c1]
            have v3 : w_v3 T = 3 := by simp [w_v3, w_V, g2, c1]
            rw [q_f4, if_neg (by rw [c1]; decide), ← t3, ← v3, q_f5]
            by_cases d1 : q_isW (w_t3 T) 19 = true
            · simp [d1, w_t4, w_z, g3, q_adF_Z]
            · have d1 := Bool.eq_false_iff.mpr d1
              simp [d1, w_t4, w_z, g3]
        · have b2 := Bool.eq_false_iff.mpr b2
          have g2 : w_g2 T = false := by simp [w_g2, w_G, g1, b1, b2]
          have t2 : w_t2 T = q_adv (w_t1 T) := by simp [w_t2, w_T, g1, b1, b2]
          have g3 : w_g3 T = false := by simp [w_g3, w_G, g2]
          have t3 : w_t3 T = w_t2 T := by simp [w_t3, w_T, g2]
          rw [q_f3, if_pos b1, if_neg (by rw [b2]; decide)]
          simp [w_t4, w_z, g3, t3, t2]
      · have b1 := Bool.eq_false_iff.mpr b1
        have g2 : w_g2 T = true := by simp [w_g2, w_G, g1, b1]
        have t2 : w_t2 T = w_t1 T := by simp [w_t2, w_T, g1, b1]
        have v2 : w_v2 T = w_v1 T := by simp [w_v2, w_V, g1, b1]
        rw [q_f3, if_neg (by rw [b1]; decide), ← t2, v2]
        clear v2 t2 b1 g1
        by_cases c1 : q_isW (w_t2 T) 18 = true
        · by_cases c2 : q_isN (q_adv (w_t2 T)) 1 9 = true
          · have g3 : w_g3 T = true := by simp [w_g3, w_G, g2, c1, c2]
            have t3 : w_t3 T = q_adv (q_adv (w_t2 T)) := by simp [w_t3, w_T, g2, c1, c2]
            have v3 : w_v3 T = (q_adv (w_t2 T)).2.2.2.2.2 := by rw [← q_tkv_N c2]; simp [w_v3, w_V, g2, c1]
            rw [q_f4, if_pos c1, if_pos c2, q_adF_S, ← t3, ← v3, q_f5]
            by_cases d1 : q_isW (w_t3 T) 19 = true
            · simp [d1, w_t4, w_z, g3, q_adF_Z]
            · have d1 := Bool.eq_false_iff.mpr d1
              simp [d1, w_t4, w_z, g3]
          · have c2 := Bool.eq_false_iff.mpr c2
            have g3 : w_g3 T = false := by simp [w_g3, w_G, g2, c1, c2]
            have t3 : w_t3 T = q_adv (w_t2 T) := by simp [w_t3, w_T, g2, c1, c2]
            rw [q_f4, if_pos c1, if_neg (by rw [c2]; decide)]
            simp [w_t4, w_z, g3, t3]
        · have c1 := Bool.eq_false_iff.mpr c1
          have g3 : w_g3 T = true := by simp [w_g3, w_G, g2, c1]
          have t3 : w_t3 T = w_t2 T := by simp [w_t3, w_T, g2, c1]
          have v3 : w_v3 T = 3 := by simp [w_v3, w_V, g2, c1]
          rw [q_f4, if_neg (by rw [c1]; decide), ← t3, ← v3, q_f5]
          by_cases d1 : q_isW (w_t3 T) 19 = true
          · simp [d1, w_t4, w_z, g3, q_adF_Z]
          · have d1 := Bool.eq_false_iff.mpr d1
            simp [d1, w_t4, w_z, g3]
    · have a2 := Bool.eq_false_iff.mpr a2
      have g1 : w_g1 T = false := by simp [w_g1, w_G, a1, a2]
      have t1 : w_t1 T = q_adv T := by simp [w_t1, w_T, a1, a2]
      have g2 : w_g2 T = false := by simp [w_g2, w_G, g1]
      have t2 : w_t2 T = w_t1 T := by simp [w_t2, w_T, g1]
      have g3 : w_g3 T = false := by simp [w_g3, w_G, g2]
      have t3 : w_t3 T = w_t2 T := by simp [w_t3, w_T, g2]
      rw [q_f2, if_pos a1, if_neg (by rw [a2]; decide)]
      simp [w_t4, w_z, g3, t3, t2, t1]
  · have a1 := Bool.eq_false_iff.mpr a1
    have g1 : w_g1 T = false := by simp [w_g1, w_G, a1]
    have t1 : w_t1 T = T := by simp [w_t1, w_T, a1]
    have g2 : w_g2 T = false := by simp [w_g2, w_G, g1]
    have t2 : w_t2 T = w_t1 T := by simp [w_t2, w_T, g1]
    have g3 : w_g3 T = false := by simp [w_g3, w_G, g2]
    have t3 : w_t3 T = w_t2 T := by simp [w_t3, w_T, g2]
    rw [q_f2, if_neg (by rw [a1]; decide)]
    simp [w_t4, w_z, g3, t3, t2, t1]
/-! and of a task's -/
def w_h2 (T : TS) : Bool := w_G (w_g1 T) (w_t1 T) 7 1 99 false
def w_s2 (T : TS) : TS := w_T (w_g1 T) (w_t1 T) 7 1 99
def w_u2 (T : TS) : Int32 := w_V (w_g1 T) (w_t1 T) 7 0
def w_h3 (T : TS) : Bool := w_G (w_h2 T) (w_s2 T) 8 0 99 false
def w_s3 (T : TS) : TS := w_T (w_h2 T) (w_s2 T) 8 0 99
def w_u3 (T : TS) : Int32 := w_V (w_h2 T) (w_s2 T) 8 0
theorem w_tsk (T : TS) (P : RS) (so : Int32) : (q_t2 T P so).1 = w_h3 T ∧ (q_t2 T P so).2.1 = w_s3 T ∧ (w_h3 T = true → (q_t2 T P so).2.2 = q_addT P so (w_v1 T) (w_u2 T) (w_u3 T)) := by
  by_cases a1 : q_isW T 6 = true
  · by_cases a2 : q_isN (q_adv T) 0 30 = true
    · have g1 : w_g1 T = true := by simp [w_g1, w_G, a1, a2]
      have t1 : w_t1 T = q_adv (q_adv T) := by simp [w_t1, w_T, a1, a2]
      have v1 : w_v1 T = (q_adv T).2.2.2.2.2 := by rw [← q_tkv_N a2]; simp [w_v1, w_V, a1]
      rw [q_t2, if_pos a1, if_pos a2, ← t1, ← v1]
      clear v1 t1 a1 a2
      by_cases b1 : q_isW (w_t1 T) 7 = true
      · by_cases b2 : q_isN (q_adv (w_t1 T)) 1 99 = true
        · have g2 : w_h2 T = true := by simp [w_h2, w_G, g1, b1, b2]
          have t2 : w_s2 T = q_adv (q_adv (w_t1 T)) := by simp [w_s2, w_T, g1, b1, b2]
          have v2 : w_u2 T = (q_adv (w_t1 T)).2.2.2.2.2 := by rw [← q_tkv_N b2]; simp [w_u2, w_V, g1, b1]
          rw [q_t3, if_pos b1, if_pos b2, ← t2, ← v2]
          clear v2 t2 b1 b2 g1
          by_cases c1 : q_isW (w_s2 T) 8 = true
          · by_cases c2 : q_isN (q_adv (w_s2 T)) 0 99 = true
            · have g3 : w_h3 T = true := by simp [w_h3, w_G, g2, c1, c2]
              have t3 : w_s3 T = q_adv (q_adv (w_s2 T)) := by simp [w_s3, w_T, g2, c1, c2]
              have v3 : w_u3 T = (q_adv (w_s2 T)).2.2.2.2.2 := by rw [← q_tkv_N c2]; simp [w_u3, w_V, g2, c1]
              rw [q_t4, if_pos c1, if_pos c2, ← t3, ← v3]
              exact ⟨g3.symm, rfl, fun _ => rfl⟩
            · have c2 := Bool.eq_false_iff.mpr c2
              have g3 : w_h3 T = false := by simp [w_h3, w_G, g2, c1, c2]
              have t3 : w_s3 T = q_adv (w_s2 T) := by simp [w_s3, w_T, g2, c1, c2]
              rw [q_t4, if_pos c1, if_neg (by rw [c2]; decide)]
              simp [g3, t3]
          · have c1 := Bool.eq_false_iff.mpr c1
            have g3 : w_h3 T = false := by simp [w_h3, w_G, c1]
            have t3 : w_s3 T = w_s2 T := by simp [w_s3, w_T, c1]
            rw [q_t4, if_neg (by rw [c1]; decide)]
            simp [g3, t3]
        · have b2 := Bool.eq_false_iff.mpr b2
          have g2 : w_h2 T = false := by simp [w_h2, w_G, g1, b1, b2]
          have t2 : w_s2 T = q_adv (w_t1 T) := by simp [w_s2, w_T, g1, b1, b2]
          have g3 : w_h3 T = false := by simp [w_h3, w_G, g2]
          have t3 : w_s3 T = w_s2 T := by simp [w_s3, w_T, g2]
          rw [q_t3, if_pos b1, if_neg (by rw [b2]; decide)]
          simp [g3, t3, t2]
      · have b1 := Bool.eq_false_iff.mpr b1
        have g2 : w_h2 T = false := by simp [w_h2, w_G, b1]
        have t2 : w_s2 T = w_t1 T := by simp [w_s2, w_T, b1]
        have g3 : w_h3 T = false := by simp [w_h3, w_G, g2]
        have t3 : w_s3 T = w_s2 T := by simp [w_s3, w_T, g2]
        rw [q_t3, if_neg (by rw [b1]; decide)]
        simp [g3, t3, t2]
    · have a2 := Bool.eq_false_iff.mpr a2
      have g1 : w_g1 T = false := by simp [w_g1, w_G, a1, a2]
      have t1 : w_t1 T = q_adv T := by simp [w_t1, w_T, a1, a2]
      have g2 : w_h2 T = false := by simp [w_h2, w_G, g1]
      have t2 : w_s2 T = w_t1 T := by simp [w_s2, w_T, g1]
      have g3 : w_h3 T = false := by simp [w_h3, w_G, g2]
      have t3 : w_s3 T = w_s2 T := by simp [w_s3, w_T, g2]
      rw [q_t2, if_pos a1, if_neg (by rw [a2]; decide)]
      simp [g3, t3, t2, t1]
  · have a1 := Bool.eq_false_iff.mpr a1
    have g1 : w_g1 T = false := by simp [w_g1, w_G, a1]
    have t1 : w_t1 T = T := by simp [w_t1, w_T, a1]
    have g2 : w_h2 T = false := by simp [w_h2, w_G, g1]
    have t2 : w_s2 T = w_t1 T := by simp [w_s2, w_T, g1]
    have g3 : w_h3 T = false := by simp [w_h3, w_G, g2]
    have t3 : w_s3 T = w_s2 T := by simp [w_s3, w_T, g2]
    rw [q_t2, if_neg (by rw [a1]; decide)]
    simp [g3, t3, t2, t1]
theorem zwd_ne {i j : Nat} (hi : i < 20) (hj : j < 20) (h : ¬ i = j) : ¬ zwd i = zwd j := by
  have k : ∀ i j : Fin 20, ¬ i.val = j.val → ¬ zwd i.val = zwd j.val := by decide +kernel
  exact k ⟨i, hi⟩ ⟨j, hj⟩ h
theorem q_isW_u {T : TS} {x6 : Nat → Int32} {x7 i j : Nat} (hT : zTk T x6 x7) (hi : i < 20) (hj : j < 20) (h : q_isW T i = true) (hij : ¬ i = j) : q_isW T j = false := by
  rw [q_isW_m hi hT, Bool.and_eq_true] at h
  rw [q_isW_m hj hT, of_decide_eq_true h.2, decide_eq_false (zwd_ne hi hj hij), Bool.and_false]
theorem q_kind_w {T : TS} (h : ¬ q_kind T < 0) : ∃ i, 11 ≤ i ∧ i ≤ 16 ∧ q_isW T i = true := by
  unfold q_kind at h
  by_cases c : q_isW T 11 = true
  · exact ⟨11, by decide, by decide, c⟩
  · rw [if_neg c] at h
    by_cases c : q_isW T 12 = true
    · exact ⟨12, by decide, by decide, c⟩
    · rw [if_neg c] at h
      by_cases c : q_isW T 13 = true
      · exact ⟨13, by decide, by decide, c⟩
      · rw [if_neg c] at h
        by_cases c : q_isW T 14 = true
        · exact ⟨14, by decide, by decide, c⟩
        · rw [if_neg c] at h
          by_cases c : q_isW T 15 = true
          · exact ⟨15, by decide, by decide, c⟩
          · rw [if_neg c] at h
            by_cases c : q_isW T 16 = true
            · exact ⟨16, by decide, by decide, c⟩
            · rw [if_neg c] at h
              exact absurd (by decide) h
