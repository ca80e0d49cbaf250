theorem w_itF {T : TS} {P : RS} {x0 x6 : Nat → Int32} {x7 : Nat} (hT : zTk T x6 x7) (hR0 : zRo P x0) (hP : zPi P) (hG : zRg P) (hk : ¬ q_kind T < 0) :
    (q_item T P).1 = (decide (P.2.1 < 7) && w_g3 (q_adv T)) ∧ (q_item T P).2.1 = (if P.2.1 < 7 then w_t4 (q_adv T) else T) ∧
    ∀ x, x < 70 → (if (decide (P.2.1 < 7) && w_g3 (q_adv T)) = true then q_ad x0 P.2.1 (q_kind T) (w_v1 (q_adv T)) (w_v2 (q_adv T)) (w_v3 (q_adv T)) (zB (w_z (q_adv T))) else x0) x = (if (q_item T P).1 = true then q_rw (q_item T P).2.2 else x0) x := by
  obtain ⟨i, hi1, hi2, hi⟩ := q_kind_w hk
  have e0 := q_isW_u hT (show i < 20 by omega) (show 0 < 20 by decide) hi (by omega)
  have e9 := q_isW_u hT (show i < 20 by omega) (show 9 < 20 by decide) hi (by omega)
  have e10 := q_isW_u hT (show i < 20 by omega) (show 10 < 20 by decide) hi (by omega)
  have hk1 : ¬ q_kind T = -1 := fun e => hk (by rw [e]; decide)
  have ei : q_item T P = if P.2.1 < 7 then q_f2 (q_adv T) P (q_kind T) else (false, T, P) := by
    rw [q_item, if_neg (by rw [e0]; decide), if_neg (by rw [e9]; decide), if_neg (by rw [e10]; decide), q_tkF, if_neg hk1]
  rw [ei]
  by_cases h7 : P.2.1 < 7
  · obtain ⟨f1, f2, f3⟩ := w_fel (q_adv T) P (q_kind T)
    rw [if_pos h7, if_pos h7, decide_eq_true h7, Bool.true_and]
    refine ⟨f1, f2, fun x hx => ?_⟩
    rw [f1]
    by_cases hg : w_g3 (q_adv T) = true
    · rw [if_pos hg, if_pos hg, f3 hg]
      exact (hR0.ad hG.1 h7 _ _ _ _ _).rw x hx
    · rw [if_neg hg, if_neg hg]
  · rw [if_neg h7, if_neg h7, decide_eq_false h7, Bool.false_and]
    exact ⟨rfl, rfl, fun x hx => rfl⟩
theorem w_itT {T : TS} {P : RS} {x0 x6 : Nat → Int32} {x7 : Nat} (hT : zTk T x6 x7) (hR0 : zRo P x0) (hP : zPi P) (h0 : q_isW T 0 = true) :
    (q_item T P).1 = (decide (P.2.2.1 < 8) && (decide (0 ≤ q_sort (q_adv T)) && w_h3 (q_adv (q_adv T)))) ∧ (q_item T P).2.1 = (if P.2.2.1 < 8 then (if 0 ≤ q_sort (q_adv T) then w_s3 (q_adv (q_adv T)) else q_adv T) else T) ∧
    ∀ x, x < 70 → (if (decide (P.2.2.1 < 8) && (decide (0 ≤ q_sort (q_adv T)) && w_h3 (q_adv (q_adv T)))) = true then q_at x0 P.2.2.1 (q_sort (q_adv T)) (w_v1 (q_adv (q_adv T))) (w_u2 (q_adv (q_adv T))) (w_u3 (q_adv (q_adv T))) else x0) x = (if (q_item T P).1 = true then q_rw (q_item T P).2.2 else x0) x := by
  have ei : q_item T P = if P.2.2.1 < 8 then (if 0 ≤ q_sort (q_adv T) then q_t2 (q_adv (q_adv T)) P (q_sort (q_adv T)) else (false, q_adv T, P)) else (false, T, P) := by
    rw [q_item, if_pos h0, q_tkT]
  rw [ei]
  by_cases h8 : P.2.2.1 < 8
  · rw [if_pos h8, if_pos h8, decide_eq_true h8, Bool.true_and]
    by_cases hs : 0 ≤ q_sort (q_adv T)
    · obtain ⟨f1, f2, f3⟩ := w_tsk (q_adv (q_adv T)) P (q_sort (q_adv T))
      rw [if_pos hs, if_pos hs, decide_eq_true hs, Bool.true_and]
      refine ⟨f1, f2, fun x hx => ?_⟩
      rw [f1]
      by_cases hg : w_h3 (q_adv (q_adv T)) = true
      · rw [if_pos hg, if_pos hg, f3 hg]
        exact (hR0.adT h8 _ _ _ _).rw x hx
      · rw [if_neg hg, if_neg hg]
    · rw [if_neg hs, if_neg hs, decide_eq_false hs, Bool.false_and]
      exact ⟨rfl, rfl, fun x hx => rfl⟩
  · rw [if_neg h8, if_neg h8, decide_eq_false h8, Bool.false_and]
    exact ⟨rfl, rfl, fun x hx => rfl⟩
theorem w_itS {T : TS} {P : RS} {x0 x6 : Nat → Int32} {x7 : Nat} {c : Bool} (hT : zTk T x6 x7) (hR0 : zRo P x0) (hP : zPi P) (h9 : q_isW T (if c then 10 else 9) = true) :
    (q_item T P).1 = q_isN (q_adv T) 0 (nI P.2.1 - 1) ∧ (q_item T P).2.1 = w_n true (q_adv T) 0 (nI P.2.1 - 1) ∧
    ∀ x, x < 70 → (if q_isN (q_adv T) 0 (nI P.2.1 - 1) = true then upd x0 (3 + 5 * (q_adv T).2.2.2.2.2.toNatClampNeg + 4) (zB c) else x0) x = (if (q_item T P).1 = true then q_rw (q_item T P).2.2 else x0) x := by
  have hi : (if c then 10 else 9 : Nat) < 20 := by cases c <;> decide
  have e0 := q_isW_u hT hi (show 0 < 20 by decide) h9 (by cases c <;> decide)
  have ei : q_item T P = q_tkS T P c := by
    rw [q_item, if_neg (by rw [e0]; decide)]
    cases c
    · rw [if_pos (show q_isW T 9 = true from h9)]
    · have e9 := q_isW_u hT (i := 10) (j := 9) (by decide) (by decide) h9 (by decide)
      rw [if_neg (by rw [e9]; decide), if_pos (show q_isW T 10 = true from h9)]
  rw [ei, q_tkS, w_n, Bool.true_and]
  by_cases hn : q_isN (q_adv T) 0 (nI P.2.1 - 1) = true
  · rw [if_pos hn, if_pos hn]
    refine ⟨hn.symm, rfl, fun x hx => ?_⟩
    rw [if_pos hn, if_pos rfl]
    have h7 := hP.1
    exact (hR0.slp c (by have := (q_isN_nat hP.1 hn).1; omega)).rw x hx
  · rw [if_neg hn, if_neg hn]
    refine ⟨(Bool.eq_false_iff.mpr hn).symm, rfl, fun x hx => ?_⟩
    rw [if_neg hn, if_neg (show ¬ (false = true) by decide)]
theorem w_it0 {T : TS} {P : RS} (hk : q_kind T < 0) (h0 : q_isW T 0 = false) (h9 : q_isW T 9 = false) (h10 : q_isW T 10 = false) : q_item T P = (false, T, P) := by
  rw [q_item, if_neg (by rw [h0]; decide), if_neg (by rw [h9]; decide), if_neg (by rw [h10]; decide), q_tkF]
  rcases q_kind_r T with e | ⟨c, hc, e⟩
  · rw [if_pos e]
  · rw [e] at hk
    exact absurd hk (nI_pos (by omega))
/-! a token taken later -/
def zA (x6 : Nat → Int32) (x7 : Nat) (T0 T : TS) : Prop := ∃ S : TS, zTk S x6 x7 ∧ T0.2.2.2.2.1 ≤ S.2.2.2.2.1 ∧ T = q_adv S
theorem q_adv_ge (T : TS) : T.2.2.2.2.1 ≤ (q_adv T).2.2.2.2.1 ∧ (¬ (q_adv T).2.2.1 = 0 → T.2.2.2.2.1 + 1 ≤ (q_adv T).2.2.2.2.1) := by
  have hs : T.2.2.2.2.1 ≤ q_st T := q_run_ge _ _ _
  by_cases c0 : T.2.1 ≤ q_st T
  · rw [q_adv_0 c0]
    exact ⟨hs, fun q => absurd rfl q⟩
  · by_cases c1 : q_let T.1 (q_st T) = true
    · rw [q_adv_1 (by omega) c1, q_run_go (by omega) c1]
      have := q_run_ge (q_let T.1) T.2.1 (q_st T + 1)
      exact ⟨by show T.2.2.2.2.1 ≤ q_run (q_let T.1) T.2.1 (q_st T + 1); omega, fun _ => by show T.2.2.2.2.1 + 1 ≤ q_run (q_let T.1) T.2.1 (q_st T + 1); omega⟩
    · have c1 := Bool.eq_false_iff.mpr c1
      by_cases c2 : q_dig T.1 (q_st T) = true
      · rw [q_adv_2 (by omega) c1 c2, q_run_go (by omega) c2]
        have := q_run_ge (q_dig T.1) T.2.1 (q_st T + 1)
        exact ⟨by show T.2.2.2.2.1 ≤ q_run (q_dig T.1) T.2.1 (q_st T + 1); omega, fun _ => by show T.2.2.2.2.1 + 1 ≤ q_run (q_dig T.1) T.2.1 (q_st T + 1); omega⟩
      · have c2 := Bool.eq_false_iff.mpr c2
        rw [q_adv_3 (by omega) c1 c2]
        exact ⟨by show T.2.2.2.2.1 ≤ q_st T + 1; omega, fun _ => by show T.2.2.2.2.1 + 1 ≤ q_st T + 1; omega⟩
theorem zA.a {x6 : Nat → Int32} {x7 : Nat} {T0 T : TS} (h : zA x6 x7 T0 T) : zA x6 x7 T0 (q_adv T) := by
  obtain ⟨S, h1, h2, rfl⟩ := h
  exact ⟨q_adv S, h1.adv, Nat.le_trans h2 (q_adv_ge S).1, rfl⟩
theorem zA_item {x6 : Nat → Int32} {x7 : Nat} {T0 T : TS} {P : RS} (hT : zA x6 x7 T0 T) : zA x6 x7 T0 (q_item T P).2.1 := by
  have f5 : ∀ (T : TS) (P : RS) (i : Nat), zA x6 x7 T0 T → zA x6 x7 T0 (q_f5 T P i).2.1 := by
    intro T P i hT
    unfold q_f5
    split
    · exact hT.a
    · exact hT
  have f4 : ∀ (T : TS) (P : RS) (i : Nat), zA x6 x7 T0 T → zA x6 x7 T0 (q_f4 T P i).2.1 := by
    intro T P i hT
    unfold q_f4
    split
    · split
      · exact f5 _ _ _ hT.a.a
      · exact hT.a
    · exact f5 _ _ _ hT
  have f3 : ∀ (T : TS) (P : RS) (i : Nat), zA x6 x7 T0 T → zA x6 x7 T0 (q_f3 T P i).2.1 := by
    intro T P i hT
    unfold q_f3
    split
    · split
      · exact f4 _ _ _ hT.a.a
      · exact hT.a
    · exact f4 _ _ _ hT
  have f2 : ∀ (T : TS) (k : Int32), zA x6 x7 T0 T → zA x6 x7 T0 (q_f2 T P k).2.1 := by
    intro T k hT
    unfold q_f2
    split
    · split
      · exact f3 _ _ _ hT.a.a
      · exact hT.a
    · exact hT
  have t4 : ∀ (T : TS) (x y z : Int32), zA x6 x7 T0 T → zA x6 x7 T0 (q_t4 T P x y z).2.1 := by
    intro T x y z hT
    unfold q_t4
    split
    · split
      · exact hT.a.a
      · exact hT.a
    · exact hT
  have t3 : ∀ (T : TS) (x y : Int32), zA x6 x7 T0 T → zA x6 x7 T0 (q_t3 T P x y).2.1 := by
    intro T x y hT
    unfold q_t3
    split
    · split
      · exact t4 _ _ _ _ hT.a.a
      · exact hT.a
    · exact hT
  have t2 : ∀ (T : TS) (x : Int32), zA x6 x7 T0 T → zA x6 x7 T0 (q_t2 T P x).2.1 := by
    intro T x hT
    unfold q_t2
    split
    · split
      · exact t3 _ _ _ hT.a.a
      · exact hT.a
    · exact hT
  unfold q_item
  split
  · unfold q_tkT
    split
    · split
      · exact t2 _ _ hT.a.a
      · exact hT.a
    · exact hT
  · have s : ∀ c : Bool, zA x6 x7 T0 (q_tkS T P c).2.1 := by
      intro c
      unfold q_tkS
      split
      · exact hT.a.a
      · exact hT.a
    split
    · exact s false
    · split
      · exact s true
      · unfold q_tkF
        split
        · exact hT
        · split
          · exact f2 _ _ hT.a
          · exact hT
theorem q_tk0 {T : TS} : (q_tks T = 0 ↔ T.2.2.1 = 0) := by
  unfold q_tks
  by_cases h : T.2.2.1 = 0
  · rw [if_pos h]; exact ⟨fun _ => h, fun _ => rfl⟩
  · rw [if_neg h]
    refine ⟨fun q => ?_, fun q => absurd q h⟩
    split at q
    · exact absurd q (by decide)
    · split at q <;> exact absurd q (by decide)
theorem q_tk3 (S : TS) : (q_tks (q_adv S) = 3 ∧ q_tkv (q_adv S) = 59) ↔ (q_adv S).2.2.1 = 3 := by
  by_cases c0 : S.2.1 ≤ q_st S
  · obtain ⟨t1, t2, t3, t4, t5⟩ := q_tok0 c0
    rw [t1, q_adv_0 c0]
    exact ⟨fun q => absurd q.1 (by decide), fun q => absurd (show (0 : Nat) = 3 from q) (by decide)⟩
  · by_cases c1 : q_let S.1 (q_st S) = true
    · obtain ⟨t1, t2, t3, t4, t5⟩ := q_tok1 (by omega) c1
      rw [t1, q_adv_1 (by omega) c1]
      exact ⟨fun q => absurd q.1 (by decide), fun q => absurd (show (1 : Nat) = 3 from q) (by decide)⟩
    · have c1 := Bool.eq_false_iff.mpr c1
      by_cases c2 : q_dig S.1 (q_st S) = true
      · obtain ⟨t1, t2, t3, t4, t5⟩ := q_tok2 (by omega) c1 c2
        rw [t1, q_adv_2 (by omega) c1 c2]
        exact ⟨fun q => absurd q.1 (by decide), fun q => absurd (show (2 : Nat) = 3 from q) (by decide)⟩
      · have c2 := Bool.eq_false_iff.mpr c2
        obtain ⟨t1, t2, t3, t4, t5⟩ := q_tok3 (by omega) c1 c2
        rw [t1, t5, q_adv_3 (by omega) c1 c2]
        by_cases c3 : S.1 (q_st S) = 59
        · exact ⟨fun _ => if_pos c3, fun _ => ⟨rfl, c3⟩⟩
        · exact ⟨fun q => absurd q.2 c3, fun q => absurd ((if_neg c3).symm.trans q) (by decide)⟩
theorem q_isW_1 {T : TS} {i : Nat} (h : ¬ T.2.2.1 = 1) : q_isW T i = false := by
  unfold q_isW
  rw [decide_eq_false h]
  rfl
theorem q_item_0 {T : TS} {P : RS} (h : T.2.2.1 = 0) : q_item T P = (false, T, P) := by
  have n1 : ¬ T.2.2.1 = 1 := by omega
  apply w_it0
  · unfold q_kind
    rw [q_isW_1 n1, q_isW_1 n1, q_isW_1 n1, q_isW_1 n1, q_isW_1 n1, q_isW_1 n1]
    decide
  · exact q_isW_1 n1
  · exact q_isW_1 n1
  · exact q_isW_1 n1
/-- the text told, an item further -/
theorem q_tell_u {x6 : Nat → Int32} {x7 : Nat} {T : TS} {P : RS} {j : Nat} (hT : zTk T x6 x7) (hj : j ≤ T.2.2.2.2.1) :
    ((q_item (q_adv T) P).1 = false → q_tell (120 - j) (q_adv T) P j = (-1 - nI (q_item (q_adv T) P).2.1.2.2.2.1, (q_item (q_adv T) P).2.1, (q_item (q_adv T) P).2.2)) ∧
    ((q_item (q_adv T) P).1 = true → (q_item (q_adv T) P).2.1.2.2.1 = 0 → q_tell (120 - j) (q_adv T) P j = (nI (j + 1), (q_item (q_adv T) P).2.1, (q_item (q_adv T) P).2.2)) ∧
    ((q_item (q_adv T) P).1 = true → (q_item (q_adv T) P).2.1.2.2.1 = 3 → j < 120 ∧ j + 1 ≤ (q_item (q_adv T) P).2.1.2.2.2.2.1 ∧ q_tell (120 - j) (q_adv T) P j = q_tell (120 - (j + 1)) (q_adv (q_item (q_adv T) P).2.1) (q_item (q_adv T) P).2.2 (j + 1)) ∧
    ((q_item (q_adv T) P).1 = true → ¬ (q_item (q_adv T) P).2.1.2.2.1 = 0 → ¬ (q_item (q_adv T) P).2.1.2.2.1 = 3 → q_tell (120 - j) (q_adv T) P j = (-1 - nI (q_item (q_adv T) P).2.1.2.2.2.1, (q_item (q_adv T) P).2.1, (q_item (q_adv T) P).2.2)) := by
  have h120 := hT.2.2.1
  have he := hT.2.2.2.1
  by_cases h : j < 120
  · have e : q_tell (120 - j) (q_adv T) P j = q_tell ((120 - (j + 1)) + 1) (q_adv T) P j := by congr 1; omega
    rw [e, q_tell]
    refine ⟨fun a => ?_, fun a b => ?_, fun a b => ⟨h, ?_, ?_⟩, fun a b c => ?_⟩
    · rw [if_neg (by rw [a]; decide)]
    · rw [if_pos a, if_pos b]
    · obtain ⟨S, h1, h2, h3⟩ := zA_item (P := P) (⟨T, hT, Nat.le_refl _, rfl⟩ : zA x6 x7 T (q_adv T))
      rw [h3] at b ⊢
      have := (q_adv_ge S).2 (by omega)
      omega
    · rw [if_pos a, if_neg (by omega), if_pos b]
    · rw [if_pos a, if_neg b, if_neg c]
  · have h0 : (q_adv T).2.2.1 = 0 := by
      have hs : T.2.2.2.2.1 ≤ q_st T := q_run_ge _ _ _
      rw [q_adv_0 (by rw [hT.2.1]; omega)]
    have e : q_item (q_adv T) P = (false, q_adv T, P) := q_item_0 h0
    rw [e, show 120 - j = 0 by omega]
    exact ⟨fun _ => rfl, fun q => absurd (show false = true from q) (by decide), fun q => absurd (show false = true from q) (by decide), fun q => absurd (show false = true from q) (by decide)⟩
theorem q_m1s {s : Nat} (h : s < 1000) : ¬ (0 : Int32) ≤ -1 - nI s := by
  rw [nI_i, show (-1 : Int32) = Int32.ofInt (-1) by decide, ← Int32.ofInt_sub, show (0 : Int32) = Int32.ofInt 0 by decide, Int32.not_le]
  have b1 : Int32.minValue.toInt = -2147483648 := by decide
  have b2 : Int32.maxValue.toInt = 2147483647 := by decide
  exact (Int32.ofInt_lt_iff_lt (by omega) (by omega) (by omega) (by omega)).mpr (by omega)
theorem zA.st {x6 : Nat → Int32} {x7 : Nat} {T0 T : TS} (h : zA x6 x7 T0 T) : T.2.2.2.1 < 1000 ∧ zTk T x6 x7 := by
  obtain ⟨S, h1, h2, rfl⟩ := h
  have h3 := zTi.adv (T := S) (by rw [h1.2.1]; exact h1.2.2.1) (by rw [h1.2.1]; exact h1.2.2.2.1)
  have h4 := h1.adv
  have := h3.2.2.1
  have := h4.2.2.2.1
  have := h4.2.2.1
  exact ⟨by omega, h4⟩
