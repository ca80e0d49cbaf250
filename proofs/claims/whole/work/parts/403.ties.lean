/-! ===== where the two are told otherwise ===== -/
theorem q_bs_cg {e e' : Nat → Int32} {aw : Nat} (h : ∀ s, s &&& aw = s → e s = e' s) : ∀ n, q_bs e aw n = q_bs e' aw n
  | 0 => rfl
  | n + 1 => by
    rw [q_bs, q_bs, q_bs_cg h n]
    by_cases c : n &&& aw = n
    · rw [h n c]
    · rw [if_neg (fun q => c q.1), if_neg (fun q => c q.1)]
theorem q_bs_ge (e : Nat → Int32) (aw : Nat) : ∀ d, q_bs e aw (aw + 1 + d) = q_bs e aw (aw + 1)
  | 0 => rfl
  | d + 1 => by
    rw [← Nat.add_assoc, q_bs_f, q_bs_ge e aw d]
    intro q
    have h : aw + 1 + d &&& aw ≤ aw := Nat.and_le_right
    have h2 := q.1
    omega
theorem q_best_m {P : RS} (h7 : P.2.1 ≤ 7) : (q_bs (fun s => q_earn P (s &&& q_awk P)) (q_awk P) 128).1 = q_best P := by
  have ha := q_awk_128 h7
  unfold q_best
  rw [q_bs_cg (e := fun s => q_earn P (s &&& q_awk P)) (e' := q_earn P) (fun s c => congrArg (q_earn P) c), show 128 = q_awk P + 1 + (127 - q_awk P) by omega, q_bs_ge]
theorem q_bs_sub (e : Nat → Int32) (aw : Nat) : ∀ n, (q_bs e aw n).1 &&& aw = (q_bs e aw n).1
  | 0 => Nat.zero_and aw
  | n + 1 => by
    rw [q_bs]
    split
    · rename_i h; exact h.1
    · exact q_bs_sub e aw n
theorem q_mask_cg {f f' : Nat → Bool} : ∀ n, (∀ i, i < n → f i = f' i) → q_mask f n = q_mask f' n
  | 0, _ => rfl
  | n + 1, h => by rw [q_mask, q_mask, q_mask_cg n (fun i hi => h i (by omega)), h n (by omega)]
theorem q_clr7 {P : RS} (h7 : P.2.1 ≤ 7) {i : Nat} (hi : i < 7) : q_clr 127 i &&& q_awk P = q_clr (q_awk P) i := by
  have ha := q_awk_128 h7
  apply Nat.eq_of_testBit_eq
  intro j
  unfold q_clr
  rw [Nat.testBit_and, Nat.testBit_and, Nat.testBit_and]
  have e : (127 : Nat).testBit j = decide (j < 7) := by rw [show (127 : Nat) = 2 ^ 7 - 1 from rfl, Nat.testBit_two_pow_sub_one]
  rw [e]
  by_cases hj : j < 7
  · rw [decide_eq_true hj, Bool.true_and, Bool.and_comm]
  · rw [Nat.testBit_lt_two_pow (x := q_awk P) (Nat.lt_of_lt_of_le ha (show 128 ≤ 2 ^ j from Nat.pow_le_pow_right (n := 2) (by decide) (show 7 ≤ j by omega)))]
    simp
theorem p_spoils_m {P : RS} (h7 : P.2.1 ≤ 7) : nI (q_mask (fun i => !(P.2.2.2.1.testBit i) && decide (¬ q_earn P (q_clr 127 i &&& q_awk P) ≤ q_earn P (q_awk P))) P.2.1) = p_spoils P := by
  unfold p_spoils
  congr 1
  apply q_mask_cg
  intro i hi
  unfold q_spl
  rw [q_awk_tb h7, decide_eq_true hi, Bool.true_and, q_clr7 h7 (by omega)]
theorem p_missed_m (f : xF) {P : RS} (h7 : P.2.1 ≤ 7) (i : Int32) : (if q_ix i P.2.1 = true then q_earn P (q_awk P) - q_earn P (q_clr 127 i.toNatClampNeg &&& q_awk P) else (p_missed f P i).1) = (p_missed f P i).1 := by
  rcases q_ix_or i (n := P.2.1) (by omega) with ⟨j, hj, rfl⟩ | h
  · have hq := q_ix_t hj (n := P.2.1) (by omega)
    unfold p_missed
    rw [if_pos hq, if_pos hq, nI_clamp (by omega), q_clr7 h7 (by omega)]
  · rw [if_neg (by rw [h]; decide)]
/-- the first and the last mile -/
theorem q_lohi {m : Nat → Int32} {n : Nat} (h : ∀ i, i < n → ∃ c, c < 31 ∧ m i = nI c) : ∀ j, 1 ≤ j → j ≤ n → (∃ c, c < 31 ∧ q_lo m j = nI c ∧ (q_sp m j).1 = nI c) ∧ (∃ c, c < 31 ∧ q_hi m j = nI c ∧ (q_sp m j).2 = nI c)
  | 0, h1, _ => absurd h1 (by decide)
  | j + 1, _, hj => by
    obtain ⟨c, hc, ec⟩ := h j (by omega)
    by_cases h0 : j = 0
    · subst h0
      rw [q_lo_1, q_hi_1, q_sp, ec]
      refine ⟨⟨c, hc, rfl, ?_⟩, ⟨c, hc, rfl, ?_⟩⟩
      · show (if (30 : Int32) ≤ nI c then 30 else nI c) = nI c
        by_cases q : c = 30
        · subst q; decide
        · rw [if_neg (fun z => by
            have := (nI_leI (a := 30) (b := c) (by omega) (by omega)).mp z
            omega)]
      · show (if nI c ≤ (0 : Int32) then 0 else nI c) = nI c
        by_cases q : c = 0
        · subst q; decide
        · rw [if_neg (fun z => by
            have := (nI_leI (a := c) (b := 0) (by omega) (by omega)).mp z
            omega)]
    · obtain ⟨⟨a, ha, ea, ea2⟩, ⟨b, hb, eb, eb2⟩⟩ := q_lohi h j (by omega) (by omega)
      rw [q_lo, q_hi, q_sp, ea, eb, ea2, eb2, ec, zmin (by omega) (by omega)]
      refine ⟨⟨min a c, by omega, rfl, ?_⟩, ⟨max b c, by omega, ?_, ?_⟩⟩
      · show (if nI a ≤ nI c then nI a else nI c) = nI (min a c)
        by_cases q : a ≤ c
        · rw [if_pos (nI_le q (by omega)), Nat.min_eq_left q]
        · rw [if_neg (fun z => q ((nI_leI (by omega) (by omega)).mp z)), Nat.min_eq_right (by omega)]
      · unfold q_max
        by_cases q : b < c
        · rw [if_pos (nI_lt q (by omega)), Nat.max_eq_right (by omega)]
        · rw [if_neg (nI_nlt (by omega) (by omega)), Nat.max_eq_left (by omega)]
      · show (if nI c ≤ nI b then nI b else nI c) = nI (max b c)
        by_cases q : c ≤ b
        · rw [if_pos (nI_le q (by omega)), Nat.max_eq_left q]
        · rw [if_neg (fun z => q ((nI_leI (by omega) (by omega)).mp z)), Nat.max_eq_right (by omega)]
theorem q_spread_m {P : RS} (hG : zRg P) : (if P.2.1 = 0 then 0 else (q_sp (rm P) P.2.1).2 - (q_sp (rm P) P.2.1).1) = q_spread P := by
  unfold q_spread
  by_cases h : P.2.1 = 0
  · rw [if_pos h, if_pos h]
  · rw [if_neg h, if_neg h]
    obtain ⟨⟨a, ha, ea, ea2⟩, ⟨b, hb, eb, eb2⟩⟩ := q_lohi (m := rm P) (n := P.2.1) (fun i hi => (hG.2.2.1 i hi).2.1) P.2.1 (by omega) (Nat.le_refl _)
    rw [ea, ea2, eb, eb2]
theorem p_now_m (f : xF) {P : RS} (hG : zRg P) (w : Int32) : (if w = 5 then (if P.2.1 = 0 then 0 else (q_sp (rm P) P.2.1).2 - (q_sp (rm P) P.2.1).1) else (p_now f P w).1) = (p_now f P w).1 := by
  by_cases h : w = 5
  · subst h
    rw [if_pos rfl, q_spread_m hG]
    rfl
  · rw [if_neg h]
/-! what a call leaves keeps what may be on a road -/
theorem th_fellow (f : xF) {P : RS} {x0 : Nat → Int32} (hR : zRo P x0) (hP : zPi P) (hG : zRg P) (k m : Int32) : zRo (p_fellow f P k m).2.2 (if (q_in k 0 5 && q_in m 0 30 && decide (P.2.1 < 7)) = true then q_ad x0 P.2.1 k m m 3 0 else x0) ∧ zPi (p_fellow f P k m).2.2 ∧ zRg (p_fellow f P k m).2.2 := by
  unfold p_fellow
  by_cases h : (q_in k 0 5 && q_in m 0 30) = true
  · rw [if_pos h, h, Bool.true_and]
    by_cases h7 : P.2.1 < 7
    · rw [if_pos h7, decide_eq_true h7, if_pos rfl]
      rw [Bool.and_eq_true] at h
      obtain ⟨c, _, hc, ec⟩ := q_in_r (lo := 0) (hi := 5) (by decide) (by decide) h.1
      obtain ⟨d, _, hd, ed⟩ := q_in_r (lo := 0) (hi := 30) (by decide) (by decide) h.2
      exact ⟨hR.ad hG.1 h7 k m m 3 false, q_add_pi hP h7 k m, hG.ad ⟨c, by omega, ec⟩ ⟨d, by omega, ed⟩⟩
    · rw [if_neg h7, decide_eq_false h7, if_neg (by decide)]
      exact ⟨hR, hP, hG⟩
  · rw [if_neg h, Bool.eq_false_iff.mpr h, Bool.false_and, if_neg (by decide)]
    exact ⟨hR, hP, hG⟩
theorem th_task (f : xF) {P : RS} {x0 : Nat → Int32} (hR : zRo P x0) (hP : zPi P) (hG : zRg P) (so m ne pa : Int32) : zRo (p_task f P so m ne pa).2.2 (if ((q_in so 0 4 && (q_in m 0 30 && (q_in ne 1 99 && q_in pa 0 99))) && decide (P.2.2.1 < 8)) = true then q_at x0 P.2.2.1 so m ne pa else x0) ∧ zPi (p_task f P so m ne pa).2.2 ∧ zRg (p_task f P so m ne pa).2.2 := by
  unfold p_task
  by_cases h : (q_in so 0 4 && (q_in m 0 30 && (q_in ne 1 99 && q_in pa 0 99))) = true
  · rw [if_pos h, h, Bool.true_and]
    by_cases h8 : P.2.2.1 < 8
    · rw [if_pos h8, decide_eq_true h8, if_pos rfl]
      simp only [Bool.and_eq_true] at h
      obtain ⟨c, _, hc, ec⟩ := q_in_r (lo := 0) (hi := 4) (by decide) (by decide) h.1
      obtain ⟨d, _, hd, ed⟩ := q_in_r (lo := 0) (hi := 30) (by decide) (by decide) h.2.1
      obtain ⟨n, hn1, hn2, en⟩ := q_in_r (lo := 1) (hi := 99) (by decide) (by decide) h.2.2.1
      obtain ⟨y, _, hy, ey⟩ := q_in_r (lo := 0) (hi := 99) (by decide) (by decide) h.2.2.2
      exact ⟨hR.adT h8 so m ne pa, q_addT_pi hP h8 so m ne pa, hG.adT ⟨c, by omega, ec⟩ ⟨d, by omega, ed⟩ ⟨n, hn1, hn2, en⟩ ⟨y, hy, ey⟩⟩
    · rw [if_neg h8, decide_eq_false h8, if_neg (by decide)]
      exact ⟨hR, hP, hG⟩
  · rw [if_neg h, Bool.eq_false_iff.mpr h, Bool.false_and, if_neg (by decide)]
    exact ⟨hR, hP, hG⟩
theorem th_turn (f : xF) {P : RS} {x0 : Nat → Int32} (hR : zRo P x0) (hP : zPi P) (hG : zRg P) (i k : Int32) : zRo (p_turn f P i k).2.2 (if (q_ix i P.2.1 && q_in k 0 5) = true then upd x0 (3 + 5 * i.toNatClampNeg + 0) k else x0) ∧ zPi (p_turn f P i k).2.2 ∧ zRg (p_turn f P i k).2.2 := by
  unfold p_turn
  by_cases h : (q_ix i P.2.1 && q_in k 0 5) = true
  · rw [if_pos h, if_pos h]
    rw [Bool.and_eq_true] at h
    obtain ⟨c, _, hc, ec⟩ := q_in_r (lo := 0) (hi := 5) (by decide) (by decide) h.2
    have h7 := hP.1
    rcases q_ix_or i (n := P.2.1) (by omega) with ⟨j, hj, rfl⟩ | h2
    · rw [nI_clamp (by omega)]
      exact ⟨hR.setK k (by omega), hP, hG.setK ⟨c, by omega, ec⟩⟩
    · rw [h2] at h; exact absurd h.1 (by decide)
  · rw [if_neg h, if_neg h]
    exact ⟨hR, hP, hG⟩
theorem th_set (f : xF) {P : RS} {x0 : Nat → Int32} (hR : zRo P x0) (hP : zPi P) (hG : zRg P) (i w v : Int32) : zRo (p_set f P i w v).2.2 (if (q_ix i P.2.1 && q_may w v) = true then upd x0 (3 + 5 * i.toNatClampNeg + w.toNatClampNeg) v else x0) ∧ zPi (p_set f P i w v).2.2 ∧ zRg (p_set f P i w v).2.2 := by
  unfold p_set
  by_cases h : (q_ix i P.2.1 && q_may w v) = true
  · rw [if_pos h, if_pos h]
    rw [Bool.and_eq_true] at h
    have h7 := hP.1
    rcases q_ix_or i (n := P.2.1) (by omega) with ⟨j, hj, rfl⟩ | h2
    · rw [nI_clamp (by omega)]
      have hm := h.2
      unfold q_may at hm
      rcases q_w4 w with rfl | rfl | rfl | rfl | hw
      · rw [if_pos rfl] at hm
        obtain ⟨d, _, hd, ed⟩ := q_in_r (lo := 0) (hi := 30) (by decide) (by decide) hm
        rw [if_neg (by decide), if_pos rfl]
        exact ⟨hR.setM v (by omega), hP, hG.setM ⟨d, by omega, ed⟩⟩
      · rw [if_neg (by decide), if_pos rfl] at hm
        obtain ⟨d, _, hd, ed⟩ := q_in_r (lo := 0) (hi := 30) (by decide) (by decide) hm
        rw [if_neg (by decide), if_neg (by decide), if_pos rfl]
        exact ⟨hR.setG v (by omega), hP, hG.setG ⟨d, by omega, ed⟩⟩
      · rw [if_neg (by decide), if_neg (by decide), if_pos rfl] at hm
        rw [if_neg (by decide), if_neg (by decide), if_neg (by decide)]
        exact ⟨hR.setS v (by omega), hP, hG.setS (q_in_r (lo := 1) (hi := 9) (by decide) (by decide) hm)⟩
      · rw [if_neg (by decide), if_neg (by decide), if_neg (by decide), if_pos rfl] at hm
        obtain ⟨d, _, hd, ed⟩ := q_in_r (lo := 0) (hi := 1) (by decide) (by decide) hm
        rw [if_pos rfl]
        have ev : v = zB (decide (v = 1)) := by
          rcases (show d = 0 ∨ d = 1 by omega) with rfl | rfl <;> rw [ed] <;> decide
        refine ⟨?_, q_slp_pi hP (by omega) _, hG.slp hP.1 hj _⟩
        have e := hR.slp (decide (v = 1)) (show j < 7 by omega)
        rw [← ev] at e
        exact e
      · rw [if_neg hw.1, if_neg hw.2.1, if_neg hw.2.2.1, if_neg hw.2.2.2] at hm
        exact absurd hm (by decide)
    · rw [h2] at h; exact absurd h.1 (by decide)
  · rw [if_neg h, if_neg h]
    exact ⟨hR, hP, hG⟩
theorem zRo.drop {P : RS} {x0 : Nat → Int32} (hR : zRo P x0) (h8 : P.2.2.1 ≤ 8) {d : Nat} (hd : d < P.2.2.1) : zRo (q_drop P d) (upd (q_s4 x0 (38 + 4 * d) (38 + 4 * (P.2.2.1 - 1))) 2 (nI (P.2.2.1 - 1))) := by
  have lo : ∀ x, x < 38 → ¬ x = 2 → upd (q_s4 x0 (38 + 4 * d) (38 + 4 * (P.2.2.1 - 1))) 2 (nI (P.2.2.1 - 1)) x = x0 x := fun x h1 h2 => (upd_ne h2).trans (q_s4_lt x0 (by omega))
  have hi : ∀ t v, v < 4 → t < 8 → upd (q_s4 x0 (38 + 4 * d) (38 + 4 * (P.2.2.1 - 1))) 2 (nI (P.2.2.1 - 1)) (38 + 4 * t + v) = if d ≤ t ∧ t < P.2.2.1 - 1 then x0 (38 + 4 * (t + 1) + v) else x0 (38 + 4 * t + v) := by
    intro t v hv ht
    rw [upd_ne (by omega), q_s4]
    by_cases c : d ≤ t ∧ t < P.2.2.1 - 1
    · rw [if_pos (by omega), if_pos c, show 38 + 4 * t + v + 4 = 38 + 4 * (t + 1) + v by omega]
    · rw [if_neg (by omega), if_neg c]
  refine ⟨(lo 0 (by decide) (by decide)).trans hR.1, (lo 1 (by decide) (by decide)).trans hR.2.1, upd_eq _ _ _, fun q hq => ⟨(lo _ (by omega) (by omega)).trans (hR.2.2.2.1 q hq).1, (lo _ (by omega) (by omega)).trans (hR.2.2.2.1 q hq).2.1, (lo _ (by omega) (by omega)).trans (hR.2.2.2.1 q hq).2.2.1, (lo _ (by omega) (by omega)).trans (hR.2.2.2.1 q hq).2.2.2.1, (lo _ (by omega) (by omega)).trans (hR.2.2.2.1 q hq).2.2.2.2⟩, fun t ht => ?_⟩
  show _ = q_shf (rso P) d (P.2.2.1 - 1) t ∧ _ = q_shf (rtm P) d (P.2.2.1 - 1) t ∧ _ = q_shf (rne P) d (P.2.2.1 - 1) t ∧ _ = q_shf (rpa P) d (P.2.2.1 - 1) t
  rw [hi t 0 (by decide) ht, hi t 1 (by decide) ht, hi t 2 (by decide) ht, hi t 3 (by decide) ht]
  unfold q_shf
  by_cases c : d ≤ t ∧ t < P.2.2.1 - 1
  · obtain ⟨e0, e1, e2, e3⟩ := hR.2.2.2.2 (t + 1) (by omega)
    rw [if_pos c, if_pos c, if_pos c, if_pos c, if_pos c, if_pos c, if_pos c, if_pos c]
    exact ⟨e0, e1, e2, e3⟩
  · obtain ⟨e0, e1, e2, e3⟩ := hR.2.2.2.2 t ht
    rw [if_neg c, if_neg c, if_neg c, if_neg c, if_neg c, if_neg c, if_neg c, if_neg c]
    exact ⟨e0, e1, e2, e3⟩
theorem zRg.drop {P : RS} (hG : zRg P) {d : Nat} (hd : d < P.2.2.1) : zRg (q_drop P d) := by
  refine ⟨hG.1, hG.2.1, hG.2.2.1, fun t ht => ?_⟩
  have ht' : t < P.2.2.1 - 1 := ht
  show (∃ c, c < 5 ∧ q_shf (rso P) d (P.2.2.1 - 1) t = nI c) ∧ (∃ m, m < 31 ∧ q_shf (rtm P) d (P.2.2.1 - 1) t = nI m) ∧ (∃ e, 1 ≤ e ∧ e ≤ 99 ∧ q_shf (rne P) d (P.2.2.1 - 1) t = nI e) ∧ (∃ y, y ≤ 99 ∧ q_shf (rpa P) d (P.2.2.1 - 1) t = nI y)
  unfold q_shf
  by_cases c : d ≤ t ∧ t < P.2.2.1 - 1
  · rw [if_pos c, if_pos c, if_pos c, if_pos c]
    exact hG.2.2.2 (t + 1) (by omega)
  · rw [if_neg c, if_neg c, if_neg c, if_neg c]
    exact hG.2.2.2 t (by omega)
theorem th_done (f : xF) {P : RS} {x0 : Nat → Int32} (hR : zRo P x0) (hP : zPi P) (hG : zRg P) (i : Int32) : zRo (p_done f P i).2.2 (if q_ix i P.2.2.1 = true then upd (q_s4 x0 (38 + 4 * i.toNatClampNeg) (38 + 4 * (P.2.2.1 - 1))) 2 (nI (P.2.2.1 - 1)) else x0) ∧ zPi (p_done f P i).2.2 ∧ zRg (p_done f P i).2.2 := by
  unfold p_done
  have h8 := hP.2.1
  rcases q_ix_or i (n := P.2.2.1) (by omega) with ⟨j, hj, rfl⟩ | h
  · have hq := q_ix_t hj (n := P.2.2.1) (by omega)
    rw [if_pos hq, if_pos hq, nI_clamp (by omega)]
    exact ⟨hR.drop hP.2.1 hj, ⟨hP.1, by show P.2.2.1 - 1 ≤ 8; omega, hP.2.2⟩, hG.drop hj⟩
  · rw [if_neg (by rw [h]; decide), if_neg (by rw [h]; decide)]
    exact ⟨hR, hP, hG⟩
theorem th_hours (f : xF) {P : RS} {x0 : Nat → Int32} (hR : zRo P x0) (hP : zPi P) (hG : zRg P) (n : Int32) : zRo (p_hours f P n).2.2 (if (q_in n 1 60 && decide (P.1 + n ≤ 9999)) = true then upd (q_hrN x0 P.2.1 n.toNatClampNeg) 0 (P.1 + n) else x0) ∧ zPi (p_hours f P n).2.2 ∧ zRg (p_hours f P n).2.2 := by
  unfold p_hours
  by_cases h : q_in n 1 60 = true
  · rw [if_pos h, h, Bool.true_and]
    obtain ⟨c, hc1, hc, rfl⟩ := q_in1 h
    by_cases h9 : P.1 + nI c ≤ 9999
    · rw [if_pos h9, decide_eq_true h9, if_pos rfl, nI_clamp (by omega)]
      exact ⟨(hR.go hG hP.1 (by omega)).hour (P.1 + nI c), hP, hG.go (by omega) (q_hr_add hG.2.1 (by omega) h9)⟩
    · rw [if_neg h9, decide_eq_false h9, if_neg (by decide)]
      exact ⟨hR, hP, hG⟩
  · rw [if_neg h, Bool.eq_false_iff.mpr h, Bool.false_and, if_neg (by decide)]
    exact ⟨hR, hP, hG⟩
theorem th_lays (f : xF) {P : RS} {x0 : Nat → Int32} {ss : Nat → SS} (hR : zRo P x0) (hP : zPi P) (hG : zRg P) (s : Int32) : zRo (p_lays f P ss s).2.2 (if (q_in s 0 3 && decide (¬ (ss s.toNatClampNeg).1 = 0)) = true then q_lyr (ss s.toNatClampNeg).2.2 x0 (min (ss s.toNatClampNeg).2.1 P.2.1) else x0) ∧ zPi (p_lays f P ss s).2.2 ∧ zRg (p_lays f P ss s).2.2 := by
  have h7 := hP.1
  unfold p_lays
  by_cases h : q_in s 0 3 = true
  · rw [if_pos h, h, Bool.true_and]
    by_cases h0 : (ss s.toNatClampNeg).1 = 0
    · rw [if_pos h0, decide_eq_false (fun q => q h0), if_neg (by decide)]
      exact ⟨hR, hP, hG⟩
    · rw [if_neg h0, decide_eq_true h0, if_pos rfl]
      exact ⟨hR.lyr _ _ (by omega), hP, hG.lay _ _⟩
  · rw [if_neg h, Bool.eq_false_iff.mpr h, Bool.false_and, if_neg (by decide)]
    exact ⟨hR, hP, hG⟩
theorem th_undo (f : xF) {P K : RS} {x0 x18 : Nat → Int32} {kp : Bool} (hR : zRo P x0) (hP : zPi P) (hG : zRg P) (hK : kp = true → zRo K x18 ∧ zPi K ∧ zRg K) : zRo (p_undo f P K kp).2.2 (if kp = true then x18 else x0) ∧ zPi (p_undo f P K kp).2.2 ∧ zRg (p_undo f P K kp).2.2 := by
  unfold p_undo
  by_cases h : kp = true
  · rw [if_pos h, if_pos h]; exact hK h
  · rw [if_neg h, if_neg h]; exact ⟨hR, hP, hG⟩
/-! the tape, the text -/
theorem q_app_b {x : Int32} : ∀ (k : Nat) (f : Nat → Int32) (z : Nat), (∀ i, i < z → ∃ c, c < 256 ∧ f i = nI c) → ∀ i, i < z + k → ∃ c, c < 256 ∧ q_app f z x k i = nI c
  | 0, f, z, h, i, hi => h i hi
  | k + 1, f, z, h, i, hi => by
    rw [q_app]
    refine q_app_b k _ (z + 1) (fun j hj => ?_) i (by omega)
    rw [upd_at]
    by_cases e : j = z
    · rw [if_pos e]
      generalize (x.toUInt32 >>> ((8 * nI k : Int32).toUInt32 &&& Int32.toUInt32 31)).toInt32 = y
      refine ⟨(y &&& 255).toBitVec.toNat, ?_, ?_⟩
      · rw [Int32.toBitVec_and, BitVec.toNat_and]
        exact Nat.lt_of_le_of_lt Nat.and_le_right (by decide)
      · unfold nI
        apply Int32.toBitVec_inj.mp
        apply BitVec.eq_of_toNat_eq
        show _ = (BitVec.ofNat 32 _).toNat
        rw [BitVec.toNat_ofNat, Nat.mod_eq_of_lt (BitVec.isLt _)]
    · rw [if_neg e]; exact h j (by omega)
theorem th_feed (f : xF) {tp : TS} (hz : tp.2.1 ≤ 120) (hb : ∀ i, i < tp.2.1 → ∃ c, c < 256 ∧ tp.1 i = nI c) (x n : Int32) : (p_feed f tp x n).2.2.2.1 ≤ 120 ∧ ∀ i, i < (p_feed f tp x n).2.2.2.1 → ∃ c, c < 256 ∧ (p_feed f tp x n).2.2.1 i = nI c := by
  unfold p_feed
  by_cases h : q_in n 1 4 = true
  · rw [if_pos h]
    by_cases h2 : tp.2.1 + n.toNatClampNeg ≤ 120
    · rw [if_pos h2]
      exact ⟨h2, q_app_b _ _ _ hb⟩
    · rw [if_neg h2]; exact ⟨hz, hb⟩
  · rw [if_neg h]; exact ⟨hz, hb⟩
theorem th_tell {x6 : Nat → Int32} {x7 : Nat} {T0 : TS} : ∀ (k : Nat) (T : TS) (P : RS) (it : Nat), zA x6 x7 T0 T → zPi P → zRg P → (q_tell k T P it).2.1.1 = x6 ∧ zPi (q_tell k T P it).2.2 ∧ zRg (q_tell k T P it).2.2
  | 0, T, P, it, hT, hP, hG => ⟨hT.st.2.1, hP, hG⟩
  | k + 1, T, P, it, hT, hP, hG => by
    have h1 := zA_item (P := P) hT
    have hi : zTi T := by
      obtain ⟨S, s1, s2, rfl⟩ := hT
      exact zTi.adv (by rw [s1.2.1]; exact s1.2.2.1) (by rw [s1.2.1]; exact s1.2.2.2.1)
    have h2 := (q_item_inv hi hP).2
    have h3 := zRg_item (T := T) hG hP
    rw [q_tell]
    split
    · split
      · exact ⟨h1.st.2.1, h2, h3⟩
      · split
        · exact th_tell k _ _ _ h1.a h2 h3
        · exact ⟨h1.st.2.1, h2, h3⟩
    · exact ⟨h1.st.2.1, h2, h3⟩
theorem th_road {P : RS} {tp : TS} (hP : zPi P) (hG : zRg P) (hz : tp.2.1 ≤ 120) (hb : ∀ i, i < tp.2.1 → ∃ c, c < 256 ∧ tp.1 i = nI c) : (p_road P tp).2.2.2.1 = tp.1 ∧ zPi (p_road P tp).2.1 ∧ zRg (p_road P tp).2.1 := by
  have h0 : zTk (tp.1, tp.2.1, tp.2.2.1, tp.2.2.2.1, 0, tp.2.2.2.2.2) tp.1 tp.2.1 := ⟨rfl, rfl, hz, Nat.zero_le _, hb, fun _ i _ h => absurd h (Nat.not_lt_zero i)⟩
  have h := th_tell 120 _ P 0 (⟨_, h0, Nat.le_refl _, rfl⟩ : zA tp.1 tp.2.1 (tp.1, tp.2.1, tp.2.2.1, tp.2.2.2.1, 0, tp.2.2.2.2.2) (q_adv (tp.1, tp.2.1, tp.2.2.1, tp.2.2.2.1, 0, tp.2.2.2.2.2))) hP hG
  refine ⟨h.1, ?_⟩
  show zPi (if 0 ≤ (q_rd P tp).1 then (q_rd P tp).2.2 else P) ∧ zRg (if 0 ≤ (q_rd P tp).1 then (q_rd P tp).2.2 else P)
  split
  · exact h.2
  · exact ⟨hP, hG⟩
theorem th_sheet (f : xF) {ss : xS} (hs : ∀ k, k < 4 → (ss k).2.1 ≤ 40) (s b n : Int32) : ∀ k, k < 4 → ((p_sheet f ss s b n).2.2 k).2.1 ≤ 40 := by
  unfold p_sheet
  split
  · split
    · split
      · rename_i h0 h1
        intro k hk
        show (q_ssU ss s.toNatClampNeg (q_beg b n.toNatClampNeg) k).2.1 ≤ 40
        unfold q_ssU
        split
        · show (if b = 0 then 0 else n.toNatClampNeg) ≤ 40
          split
          · omega
          · obtain ⟨m, hm, rfl⟩ := nI_of (x := n) (Int32.not_lt.mpr h0)
            rw [nI_clamp hm]
            exact (nI_leI (a := m) (b := 40) hm (by omega)).mp h1
        · exact hs k hk
      · exact hs
    · exact hs
  · exact hs
theorem th_ssU {ss : xS} (hs : ∀ k, k < 4 → (ss k).2.1 ≤ 40) (j : Nat) (F : Nat → Int64) (hj : j < 4 ∨ True) (h0 : (ss j).2.1 ≤ 40 ∨ ¬ j < 4) : ∀ k, k < 4 → (q_ssU ss j ((ss j).1, (ss j).2.1, F) k).2.1 ≤ 40 := by
  intro k hk
  unfold q_ssU
  by_cases e : k = j
  · rw [if_pos e]
    show (ss j).2.1 ≤ 40
    rw [← e]; exact hs k hk
  · rw [if_neg e]; exact hs k hk
theorem th_write (f : xF) {ss : xS} (hs : ∀ k, k < 4 → (ss k).2.1 ≤ 40) (s i : Int32) (v : Int64) : ∀ k, k < 4 → ((p_write f ss s i v).2.2 k).2.1 ≤ 40 := by
  unfold p_write
  split
  · split
    · exact hs
    · split
      · exact th_ssU hs _ _ (Or.inr trivial) (by
          by_cases h : s.toNatClampNeg < 4
          · exact Or.inl (hs _ h)
          · exact Or.inr h)
      · exact hs
  · exact hs
theorem th_copy (f : xF) {ss : xS} (hs : ∀ k, k < 4 → (ss k).2.1 ≤ 40) (s fr t to n : Int32) : ∀ k, k < 4 → ((p_copy f ss s fr t to n).2.2 k).2.1 ≤ 40 := by
  unfold p_copy
  split
  · split
    · exact hs
    · split
      · split
        · exact th_ssU hs _ _ (Or.inr trivial) (by
            by_cases h : t.toNatClampNeg < 4
            · exact Or.inl (hs _ h)
            · exact Or.inr h)
        · exact hs
      · exact hs
  · exact hs
theorem th_book (f : xF) {P T : RS} {ss : xS} (hs : ∀ k, k < 4 → (ss k).2.1 ≤ 40) (s : Int32) : ∀ k, k < 4 → ((p_book f P T ss s).2.2.2 k).2.1 ≤ 40 := by
  unfold p_book
  split
  · split
    · exact hs
    · exact th_ssU hs _ _ (Or.inr trivial) (by
        by_cases h : s.toNatClampNeg < 4
        · exact Or.inl (hs _ h)
        · exact Or.inr h)
  · exact hs
/-! the trial road isn't told -/
theorem p_on_T (f : xF) (P T T' : RS) (n : Int32) : (p_on f P T n).1 = (p_on f P T' n).1 ∧ (p_on f P T n).2.1 = (p_on f P T' n).2.1 := by
  unfold p_on
  split <;> exact ⟨rfl, rfl⟩
theorem p_when_T (f : xF) (P T T' : RS) (n : Int32) : (p_when f P T n).1 = (p_when f P T' n).1 ∧ (p_when f P T n).2.1 = (p_when f P T' n).2.1 := by
  unfold p_when
  split <;> exact ⟨rfl, rfl⟩
theorem p_stand_T (f : xF) (P T T' : RS) (n : Int32) : (p_stand f P T n).1 = (p_stand f P T' n).1 ∧ (p_stand f P T n).2.1 = (p_stand f P T' n).2.1 := by
  unfold p_stand
  split <;> exact ⟨rfl, rfl⟩
theorem p_kind_T (f : xF) (P T T' : RS) (n : Int32) : (p_kind f P T n).1 = (p_kind f P T' n).1 ∧ (p_kind f P T n).2.1 = (p_kind f P T' n).2.1 := by
  unfold p_kind
  split <;> exact ⟨rfl, rfl⟩
theorem p_skill_T (f : xF) (P T T' : RS) (n u : Int32) : (p_skill f P T n u).1 = (p_skill f P T' n u).1 ∧ (p_skill f P T n u).2.1 = (p_skill f P T' n u).2.1 := by
  unfold p_skill
  split <;> exact ⟨rfl, rfl⟩
theorem p_book_T (f : xF) (P T T' : RS) (ss : xS) (n : Int32) : (p_book f P T ss n).1 = (p_book f P T' ss n).1 ∧ (p_book f P T ss n).2.1 = (p_book f P T' ss n).2.1 ∧ (p_book f P T ss n).2.2.2 = (p_book f P T' ss n).2.2.2 := by
  unfold p_book
  split
  · split <;> exact ⟨rfl, rfl, rfl⟩
  · exact ⟨rfl, rfl, rfl⟩
