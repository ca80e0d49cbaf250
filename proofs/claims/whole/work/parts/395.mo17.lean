def q_fc (v : Int64) : Nat → Int64
  | 0 => v
  | j + 1 => q_fc v j * (nI (j + 2)).toInt64
theorem q_fc_ord {n b : Nat} (hn : n ≤ 7) (hb : b < n) : q_fc (q_fc 1 (b - 1)) (n - 1 - b - 1) = (zfa b).toInt64 * (zfa (n - 1 - b)).toInt64 := by
  have k : ∀ n b : Fin 8, b.val < n.val → q_fc (q_fc 1 (b.val - 1)) (n.val - 1 - b.val - 1) = (zfa b.val).toInt64 * (zfa (n.val - 1 - b.val)).toInt64 := by decide +kernel
  exact k ⟨n, by omega⟩ ⟨b, by omega⟩ hb
theorem q_fc_n {n : Nat} (hn : n ≤ 7) : q_fc 1 (n - 1) = (zfa n).toInt64 := by
  have k : ∀ n : Fin 8, q_fc 1 (n.val - 1) = (zfa n.val).toInt64 := by decide +kernel
  exact k ⟨n, by omega⟩
theorem zfa_0 {n : Nat} (hn : n ≤ 7) : ¬ (zfa n).toInt64 = 0 := by
  have k : ∀ n : Fin 8, ¬ (zfa n.val).toInt64 = 0 := by decide +kernel
  exact k ⟨n, by omega⟩
theorem zfa_n (x : Nat) : ∃ c : Nat, c ≤ 5040 ∧ zfa x = nI c := by
  by_cases h : x < 8
  · have k : ∀ x : Fin 8, (zfa x.val).toNatClampNeg ≤ 5040 ∧ zfa x.val = nI (zfa x.val).toNatClampNeg := by decide +kernel
    exact ⟨_, k ⟨x, h⟩⟩
  · obtain ⟨y, rfl⟩ : ∃ y, x = y + 8 := ⟨x - 8, by omega⟩
    exact ⟨0, by decide, rfl⟩
theorem q_i64 {z : Int} (h1 : -100000 ≤ z) (h2 : z ≤ 100000) : (Int32.ofInt z).toInt64 = Int64.ofInt z := by
  have b1 : Int32.minValue.toInt = -2147483648 := by decide
  have b2 : Int32.maxValue.toInt = 2147483647 := by decide
  exact Int32.toInt64_ofInt (by omega) (by omega)
theorem q_sh_i {es : Nat → Int32} {n i : Nat} (hn : n ≤ 7) (he : ∀ s, s < 2 ^ n → ∃ e : Nat, e ≤ 792 ∧ es s = nI e) (hi : i < n) : ∀ s : Nat, s ≤ 2 ^ n → ∃ z : Int, -(20118067200 * (s : Int)) ≤ z ∧ z ≤ 20118067200 * (s : Int) ∧ q_sh es n i s = Int64.ofInt z
  | 0, _ => ⟨0, by omega, by omega, rfl⟩
  | s + 1, h => by
    obtain ⟨z, h1, h2, e⟩ := q_sh_i hn he hi s (by omega)
    by_cases hb : s.testBit i = true
    · rw [q_sh_t hb]
      exact ⟨z, by omega, by omega, e⟩
    · rw [q_sh_f (Bool.eq_false_iff.mpr hb), e]
      obtain ⟨a, ha, ea⟩ := he (s ||| 2 ^ i) (Nat.or_lt_two_pow (by omega) (Nat.pow_lt_pow_right (by decide) hi))
      obtain ⟨b, hb', eb⟩ := he s (by omega)
      obtain ⟨c, hc, ec⟩ := zfa_n (q_bits s)
      obtain ⟨d, hd, ed⟩ := zfa_n (n - 1 - q_bits s)
      rw [q_ord, ea, eb, ec, ed, nI_i a, nI_i b, nI_i c, nI_i d, ← Int32.ofInt_sub, q_i64 (z := (c : Int)) (by omega) (by omega), q_i64 (z := (d : Int)) (by omega) (by omega), q_i64 (z := (a : Int) - (b : Int)) (by omega) (by omega), ← Int64.ofInt_mul, ← Int64.ofInt_mul, ← Int64.ofInt_add]
      have hw : (c : Int) * (d : Int) = ((c * d : Nat) : Int) := (Int.natCast_mul c d).symm
      have hw2 : c * d ≤ 5040 * 5040 := Nat.mul_le_mul hc hd
      rw [hw]
      generalize c * d = w at hw2
      have u1 : (w : Int) * ((a : Int) - (b : Int)) ≤ (w : Int) * 792 := Int.mul_le_mul_of_nonneg_left (by omega) (by omega)
      have u2 : (w : Int) * (-792) ≤ (w : Int) * ((a : Int) - (b : Int)) := Int.mul_le_mul_of_nonneg_left (by omega) (by omega)
      exact ⟨z + (w : Int) * ((a : Int) - (b : Int)), by omega, by omega, rfl⟩
theorem q_shr_div {es : Nat → Int32} {n i : Nat} (hn : n ≤ 7) (he : ∀ s, s < 2 ^ n → ∃ e : Nat, e ≤ 792 ∧ es s = nI e) (hi : i < n) : q_sh es n i (2 ^ n) * 5040 / (zfa n).toInt64 = q_shr es n i := by
  obtain ⟨z, h1, h2, e⟩ := q_sh_i hn he hi (2 ^ n) (Nat.le_refl _)
  have h27 : 2 ^ n ≤ 128 := Nat.pow_le_pow_right (n := 2) (by decide) hn
  unfold q_shr
  rw [e]
  generalize 2 ^ n = N at h1 h2 h27
  obtain ⟨c, w, hc0, hc, hcw, e1, e2⟩ : ∃ c w : Int, 0 < c ∧ c ≤ 5040 ∧ w * c = 5040 ∧ (zfa n).toInt64 = Int64.ofInt c ∧ (zwt n).toInt64 = Int64.ofInt w := by
    rcases (show n = 0 ∨ n = 1 ∨ n = 2 ∨ n = 3 ∨ n = 4 ∨ n = 5 ∨ n = 6 ∨ n = 7 by omega) with rfl | rfl | rfl | rfl | rfl | rfl | rfl | rfl
    · exact ⟨1, 5040, by decide, by decide, by decide, by decide, by decide⟩
    · exact ⟨1, 5040, by decide, by decide, by decide, by decide, by decide⟩
    · exact ⟨2, 2520, by decide, by decide, by decide, by decide, by decide⟩
    · exact ⟨6, 840, by decide, by decide, by decide, by decide, by decide⟩
    · exact ⟨24, 210, by decide, by decide, by decide, by decide, by decide⟩
    · exact ⟨120, 42, by decide, by decide, by decide, by decide, by decide⟩
    · exact ⟨720, 7, by decide, by decide, by decide, by decide, by decide⟩
    · exact ⟨5040, 1, by decide, by decide, by decide, by decide, by decide⟩
  have b1 : Int64.minValue.toInt = -9223372036854775808 := by decide
  have b2 : Int64.maxValue.toInt = 9223372036854775807 := by decide
  have e5 : (5040 : Int64) = Int64.ofInt 5040 := by decide
  rw [e1, e2, e5, ← Int64.ofInt_mul, ← Int64.ofInt_mul, ← Int64.ofInt_tdiv (by omega) (by omega) (by omega) (by omega)]
  congr 1
  rw [← hcw, ← Int.mul_assoc, Int.mul_tdiv_cancel _ (by omega)]
/-- the shares that are found, for the first j -/
def q_shs (P : RS) (es : Nat → Int32) (x : Nat → Int64) (j : Nat) : Nat → Int64 := fun p => if p < j then q_shr (q_wgA P es) P.2.1 p else x p
theorem q_shs_0 (P : RS) (es : Nat → Int32) (x : Nat → Int64) : q_shs P es x 0 = x := by
  funext p
  unfold q_shs
  rw [if_neg (Nat.not_lt_zero p)]
theorem q_shs_s (P : RS) (es : Nat → Int32) (x : Nat → Int64) (j : Nat) : vp_updL (q_shs P es x j) j (q_shr (q_wgA P es) P.2.1 j) = q_shs P es x (j + 1) := by
  funext p
  unfold q_shs vp_updL
  by_cases h : p = j
  · rw [if_pos h, if_pos (by omega), h]
  · rw [if_neg h]
    dsimp only
    by_cases h2 : p < j
    · rw [if_pos h2, if_pos (by omega)]
    · rw [if_neg h2, if_neg (by omega)]
theorem q_wgA_i {P : RS} (hG : zRg P) (h8 : P.2.2.1 ≤ 8) (es : Nat → Int32) : ∀ s, s < 2 ^ P.2.1 → ∃ e : Nat, e ≤ 792 ∧ q_wgA P es s = nI e := by
  intro s hs
  unfold q_wgA q_wg
  rw [if_pos hs]
  exact q_earn_pos hG h8 _
theorem q_bor {n i s : Nat} (hi : i < n) (hs : s < 2 ^ n) : s ||| 2 ^ i < 2 ^ n := Nat.or_lt_two_pow hs (Nat.pow_lt_pow_right (by decide) hi)
theorem q_sh_cg {es es' : Nat → Int32} {n i : Nat} (hi : i < n) (he : ∀ s, s < 2 ^ n → es s = es' s) : ∀ s, s ≤ 2 ^ n → q_sh es n i s = q_sh es' n i s
  | 0, _ => rfl
  | s + 1, h => by
    rw [q_sh, q_sh, q_sh_cg hi he s (by omega), he s (by omega), he (s ||| 2 ^ i) (q_bor hi (by omega))]
theorem q_shr_cg {P : RS} {es es' : Nat → Int32} {i : Nat} (hi : i < P.2.1) : q_shr (q_wgA P es) P.2.1 i = q_shr (q_wgA P es') P.2.1 i := by
  unfold q_shr
  rw [q_sh_cg hi (es := q_wgA P es) (es' := q_wgA P es') (fun s hs => by unfold q_wgA q_wg; rw [if_pos hs, if_pos hs]) _ (Nat.le_refl _)]
theorem p_share_cg (f : xF) {P : RS} (h7 : P.2.1 ≤ 7) (es es' : xF) (i : Int32) : (p_share f P es i).1 = (p_share f P es' i).1 ∧ (p_share f P es i).2.1 = (p_share f P es' i).2.1 := by
  unfold p_share
  rcases q_ix_or i (n := P.2.1) (by omega) with ⟨j, hj, rfl⟩ | h
  · rw [if_pos (q_ix_t hj (by omega)), if_pos (q_ix_t hj (by omega)), nI_clamp (by omega)]
    exact ⟨q_shr_cg hj, rfl⟩
  · rw [if_neg (by rw [h]; decide), if_neg (by rw [h]; decide)]
    exact ⟨rfl, rfl⟩
theorem q_ft_cg {sh sh' : Nat → Int64} : ∀ j, (∀ p, p < j → sh p = sh' p) → q_ft sh j = q_ft sh' j
  | 0, _ => rfl
  | j + 1, h => by
    have ih := q_ft_cg j (fun p hp => h p (by omega))
    rw [q_ft, q_ft, ih, h j (by omega)]
    cases j with
    | zero => rw [show q_ft sh' 0 = 0 from rfl, h 0 (by omega)]
    | succ j => rw [h (q_ft sh' (j + 1)) (by have := q_ft_lt sh' j; omega)]
theorem p_first_cg (f : xF) (P : RS) (es es' : xF) : (p_first f P es).1 = (p_first f P es').1 ∧ (p_first f P es).2.1 = (p_first f P es').2.1 := by
  unfold p_first
  by_cases h : P.2.1 = 0
  · rw [if_pos h, if_pos h]; exact ⟨rfl, rfl⟩
  · rw [if_neg h, if_neg h]
    exact ⟨congrArg nI (q_ft_cg _ (fun p hp => q_shr_cg hp)), rfl⟩
def q_fb (sh : Nat → Int64) (j : Nat) : Int32 := if j = 0 then -1 else nI (q_ft sh j)
theorem q_fb_p {sh : Nat → Int64} {j : Nat} (h : ¬ j = 0) : q_fb sh j = nI (q_ft sh j) := if_neg h
theorem q_fb_neg {sh : Nat → Int64} {j : Nat} (hj : j < 1000) : (q_fb sh j < 0 ↔ j = 0) := by
  unfold q_fb
  by_cases h : j = 0
  · rw [if_pos h]; exact ⟨fun _ => h, fun _ => by decide⟩
  · rw [if_neg h]
    have : q_ft sh j ≤ j := by
      obtain ⟨k, rfl⟩ : ∃ k, j = k + 1 := ⟨j - 1, by omega⟩
      have := q_ft_lt sh k
      omega
    exact ⟨fun q => absurd q (nI_pos (by omega)), fun q => absurd q h⟩
theorem q_fb_ge {sh : Nat → Int64} {j : Nat} (hj : j < 1000) : (0 ≤ q_fb sh j ↔ ¬ j = 0) := by
  rw [← q_fb_neg (sh := sh) hj, Int32.not_lt]
theorem q_ft_7 (sh : Nat → Int64) {j : Nat} (h : ¬ j = 0) : q_ft sh j < j := by
  obtain ⟨k, rfl⟩ : ∃ k, j = k + 1 := ⟨j - 1, by omega⟩
  have := q_ft_lt sh k
  omega
set_option maxRecDepth 100000 in
theorem m_Mo_ordersOf {g : Nat → Nat → Nat} {b n : Nat} (hb : b < n) (hn : n ≤ 7) : zM g y_Mo_ordersOf b_Mo_ordersOf 5 (some .long) 0 [.int (nI b), .int (nI n)] ([]) [.long ((zfa b).toInt64 * (zfa (n - 1 - b)).toInt64)] ([]) := by
  refine zMl (lv := [(0, .int (nI b)), (1, .int (nI n))]) (by decide) (Nat.le_of_ble_eq_true rfl) rfl (fun J hJ hR => ?_)
  refine z_lconst (v := 1) hJ d_Mo_ordersOf_0 (by decide) ?_
  refine z_lstore_n (lv' := [(0, _), (1, _), (2, _)]) hJ d_Mo_ordersOf_1 (by decide) rfl ?_
  refine z_iconst (v := 2) hJ d_Mo_ordersOf_2 (by decide) ?_
  refine z_istore (lv' := [(0, _), (1, _), (2, _), (4, _)]) hJ d_Mo_ordersOf_3 (by decide) rfl ?_
  have L5 : ∀ j : Nat, j ≤ b - 1 → J ([]) 5 [(0, .int (nI b)), (1, .int (nI n)), (2, .long (q_fc 1 j)), (4, .int (nI (j + 2)))] [] := by
    refine zloop (b - 1) (fun j hjN ih => ?_)
    refine z_iload hJ d_Mo_ordersOf_5 3 rfl ?_
    refine z_iload_n hJ d_Mo_ordersOf_7 0 rfl ?_
    refine z_icmp_gt hJ d_Mo_ordersOf_8 (fun c_8 => ?_) (fun c_8 => ?_)
    · skip
      have h_8 : b < (j + 2) := by
        have e := nI_ltI (a := b) (b := (j + 2)) (by omega) (by omega)
        exact e.mp c_8
      obtain rfl : j = b - 1 := by omega
      refine z_iconst (v := 2) hJ d_Mo_ordersOf_23 (by decide) ?_
      refine z_istore (lv' := [(0, _), (1, _), (2, _), (4, _)]) hJ d_Mo_ordersOf_24 (by decide) rfl ?_
      have L26 : ∀ j : Nat, j ≤ n - 1 - b - 1 → J ([]) 26 [(0, .int (nI b)), (1, .int (nI n)), (2, .long (q_fc (q_fc 1 (b - 1)) j)), (4, .int (nI (j + 2)))] [] := by
        refine zloop (n - 1 - b - 1) (fun j hjN ih => ?_)
        refine z_iload hJ d_Mo_ordersOf_26 3 rfl ?_
        refine z_iload_n hJ d_Mo_ordersOf_28 1 rfl ?_
        refine z_iconst (v := 1) hJ d_Mo_ordersOf_29 (by decide) ?_
        refine z_isub hJ d_Mo_ordersOf_30 ?_
        refine z_c (zsub1 (by omega)) ?_
        refine z_iload_n hJ d_Mo_ordersOf_31 0 rfl ?_
        refine z_isub hJ d_Mo_ordersOf_32 ?_
        refine z_c (y := nI (n - 1 - b)) (pk_sub (by omega)) ?_
        refine z_icmp_gt hJ d_Mo_ordersOf_33 (fun c_33 => ?_) (fun c_33 => ?_)
        · skip
          have h_33 : (n - 1 - b) < (j + 2) := by
            have e := nI_ltI (a := (n - 1 - b)) (b := (j + 2)) (by omega) (by omega)
            exact e.mp c_33
          obtain rfl : j = n - 1 - b - 1 := by omega
          refine z_lload_n hJ d_Mo_ordersOf_48 2 rfl ?_
          exact z_rl hR d_Mo_ordersOf_49 (by rw [q_fc_ord hn hb]) rfl
        · skip
          have h_33 : ¬ ((n - 1 - b) < (j + 2)) := by
            have e := nI_ltI (a := (n - 1 - b)) (b := (j + 2)) (by omega) (by omega)
            exact fun q => c_33 (e.mpr q)
          refine z_lload_n hJ d_Mo_ordersOf_36 2 rfl ?_
          refine z_iload hJ d_Mo_ordersOf_37 3 rfl ?_
          refine z_i2l hJ d_Mo_ordersOf_39 ?_
          refine z_lmul hJ d_Mo_ordersOf_40 ?_
          refine z_lstore_n (lv' := [(0, _), (1, _), (2, _), (4, _)]) hJ d_Mo_ordersOf_41 (by decide) rfl ?_
          refine z_iinc (v := nI ((j + 2) + 1)) (lv' := [(0, _), (1, _), (2, _), (4, _)]) hJ d_Mo_ordersOf_42 3 rfl (zinc _) (by decide) rfl ?_
          refine z_goto hJ d_Mo_ordersOf_45 ?_
          exact ih (by omega)
      exact L26 0 (Nat.zero_le _)
    · skip
      have h_8 : ¬ (b < (j + 2)) := by
        have e := nI_ltI (a := b) (b := (j + 2)) (by omega) (by omega)
        exact fun q => c_8 (e.mpr q)
      refine z_lload_n hJ d_Mo_ordersOf_11 2 rfl ?_
      refine z_iload hJ d_Mo_ordersOf_12 3 rfl ?_
      refine z_i2l hJ d_Mo_ordersOf_14 ?_
      refine z_lmul hJ d_Mo_ordersOf_15 ?_
      refine z_lstore_n (lv' := [(0, _), (1, _), (2, _), (4, _)]) hJ d_Mo_ordersOf_16 (by decide) rfl ?_
      refine z_iinc (v := nI ((j + 2) + 1)) (lv' := [(0, _), (1, _), (2, _), (4, _)]) hJ d_Mo_ordersOf_17 3 rfl (zinc _) (by decide) rfl ?_
      refine z_goto hJ d_Mo_ordersOf_20 ?_
      exact ih (by omega)
  exact L5 0 (Nat.zero_le _)
set_option maxRecDepth 100000 in
theorem m_Mo_findShares {g : Nat → Nat → Nat} {a : Nat → Nat} {x0 : Nat → Int32} {x1 : Nat → Int32} {x3 : Nat → Int32} {x4 : Nat → Int32} {x5 : Nat → Int64} {x6 : Nat → Int32} {x7 : Nat} {x8 : Int32} {x9 : Nat} {x10 : Nat} {x11 : Int64} {x12 : Int32} {x13 : Bool} {x14 : Nat → Int32} {x15 : Nat → Int32} {x16 : Nat → Int64} {x17 : Nat → Int64} {x18 : Nat → Int32} {x19 : Nat → Int32} {x20 : Bool} {P : RS}  (hR0 : zRo P x0) (hP : zPi P) (hG : zRg P) : zM g y_Mo_findShares b_Mo_findShares 8 none 9 [.ref (a 0)] (mV g a x0 x1 127 x3 x4 x5 x6 x7 x8 x9 x10 x11 x12 x13 x14 x15 x16 x17 x18 x19 x20) [] (mV g a x0 x1 127 x3 (q_wgA P x4) (q_shs P x4 x5 P.2.1) x6 x7 x8 x9 x10 x11 x12 x13 x14 x15 x16 x17 x18 x19 x20) := by
  have hj7 := hP.1
  have hj8 := hP.2.1
  have h27 : 2 ^ P.2.1 ≤ 128 := Nat.pow_le_pow_right (n := 2) (by decide) hP.1
  refine zMv (lv := [(0, .ref (a 0))]) (by decide) (Nat.le_of_ble_eq_true rfl) rfl (fun J hJ hR => ?_)
  refine z_aload_n hJ d_Mo_findShares_0 0 rfl ?_
  refine z_get hJ d_Mo_findShares_1 hc_Mo f_Mo_7 0 rfl rfl (by decide) ?_
  refine z_iconst (v := 1) hJ d_Mo_findShares_4 (by decide) ?_
  refine z_iald hJ d_Mo_findShares_5 1 (1) rfl rfl (by decide) (by decide) ?_
  refine z_c (y := nI P.2.1) hR0.2.1 ?_
  refine z_istore_n (lv' := [(0, _), (1, _)]) hJ d_Mo_findShares_6 (by decide) rfl ?_
  refine z_lconst (v := 1) hJ d_Mo_findShares_7 (by decide) ?_
  refine z_lstore_n (lv' := [(0, _), (1, _), (2, _)]) hJ d_Mo_findShares_8 (by decide) rfl ?_
  refine z_iconst (v := 2) hJ d_Mo_findShares_9 (by decide) ?_
  refine z_istore (lv' := [(0, _), (1, _), (2, _), (4, _)]) hJ d_Mo_findShares_10 (by decide) rfl ?_
  have L12 : ∀ j : Nat, j ≤ P.2.1 - 1 → J (mV g a x0 x1 127 x3 x4 x5 x6 x7 x8 x9 x10 x11 x12 x13 x14 x15 x16 x17 x18 x19 x20) 12 [(0, .ref (a 0)), (1, .int (nI P.2.1)), (2, .long (q_fc 1 j)), (4, .int (nI (j + 2)))] [] := by
    refine zloop (P.2.1 - 1) (fun j hjN ih => ?_)
    refine z_iload hJ d_Mo_findShares_12 3 rfl ?_
    refine z_iload_n hJ d_Mo_findShares_14 1 rfl ?_
    refine z_icmp_gt hJ d_Mo_findShares_15 (fun c_15 => ?_) (fun c_15 => ?_)
    · skip
      try dsimp only at c_15
      have h_15 : P.2.1 < (j + 2) := by
        have e := nI_ltI (a := P.2.1) (b := (j + 2)) (by omega) (by omega)
        exact e.mp c_15
      obtain rfl : j = P.2.1 - 1 := by omega
      refine z_iconst (v := 0) hJ d_Mo_findShares_30 (by decide) ?_
      refine z_istore (lv' := [(0, _), (1, _), (2, _), (4, _)]) hJ d_Mo_findShares_31 (by decide) rfl ?_
      have L33 : ∀ j : Nat, j ≤ (2 ^ P.2.1) → J (mV g a x0 x1 127 x3 (q_wg P x4 j) x5 x6 x7 x8 x9 x10 x11 x12 x13 x14 x15 x16 x17 x18 x19 x20) 33 [(0, .ref (a 0)), (1, .int (nI P.2.1)), (2, .long (zfa P.2.1).toInt64), (4, .int (nI j))] [] := by
        refine zloop ((2 ^ P.2.1)) (fun j hjN ih => ?_)
        refine z_iload hJ d_Mo_findShares_33 3 rfl ?_
        refine z_iconst (v := 1) hJ d_Mo_findShares_35 (by decide) ?_
        refine z_iload_n hJ d_Mo_findShares_36 1 rfl ?_
        refine z_ishl hJ d_Mo_findShares_37 ?_
        refine z_c (zshl1 (by omega)) ?_
        refine z_icmp_ge hJ d_Mo_findShares_38 (fun c_38 => ?_) (fun c_38 => ?_)
        · skip
          try dsimp only at c_38
          have h_38 : (2 ^ P.2.1) ≤ j := by
            have e := nI_leI (a := (2 ^ P.2.1)) (b := j) (by omega) (by omega)
            exact e.mp c_38
          obtain rfl : j = (2 ^ P.2.1) := by omega
          refine z_iconst (v := 0) hJ d_Mo_findShares_60 (by decide) ?_
          refine z_istore (lv' := [(0, _), (1, _), (2, _), (4, _)]) hJ d_Mo_findShares_61 (by decide) rfl ?_
          have L63 : ∀ p : Nat, p ≤ P.2.1 → J (mV g a x0 x1 127 x3 (q_wgA P x4) (q_shs P x4 x5 p) x6 x7 x8 x9 x10 x11 x12 x13 x14 x15 x16 x17 x18 x19 x20) 63 [(0, .ref (a 0)), (1, .int (nI P.2.1)), (2, .long (zfa P.2.1).toInt64), (4, .int (nI p))] [] := by
            refine zloop (P.2.1) (fun p hjN_p ih_p => ?_)
            refine z_iload hJ d_Mo_findShares_63 3 rfl ?_
            refine z_iload_n hJ d_Mo_findShares_65 1 rfl ?_
            refine z_icmp_ge hJ d_Mo_findShares_66 (fun c_66 => ?_) (fun c_66 => ?_)
            · skip
              try dsimp only at c_66
              have h_66 : P.2.1 ≤ p := by
                have e := nI_leI (a := P.2.1) (b := p) (by omega) (by omega)
                exact e.mp c_66
              obtain rfl : p = P.2.1 := by omega
              exact z_rv hR d_Mo_findShares_160 rfl
            · skip
              try dsimp only at c_66
              have h_66 : ¬ (P.2.1 ≤ p) := by
                have e := nI_leI (a := P.2.1) (b := p) (by omega) (by omega)
                exact fun q => c_66 (e.mpr q)
              refine z_lconst (v := 0) hJ d_Mo_findShares_69 (by decide) ?_
              refine z_lstore (lv' := [(0, _), (1, _), (2, _), (4, _), (5, _)]) hJ d_Mo_findShares_70 (by decide) rfl ?_
              refine z_iconst (v := 0) hJ d_Mo_findShares_72 (by decide) ?_
              refine z_istore (lv' := [(0, _), (1, _), (2, _), (4, _), (5, _), (7, _)]) hJ d_Mo_findShares_73 (by decide) rfl ?_
              have L75 : ∀ j : Nat, j ≤ (2 ^ P.2.1) → J (mV g a x0 x1 127 x3 (q_wgA P x4) (q_shs P x4 x5 p) x6 x7 x8 x9 x10 x11 x12 x13 x14 x15 x16 x17 x18 x19 x20) 75 [(0, .ref (a 0)), (1, .int (nI P.2.1)), (2, .long (zfa P.2.1).toInt64), (4, .int (nI p)), (5, .long (q_sh (q_wgA P x4) P.2.1 p j)), (7, .int (nI j))] [] := by
                refine zloop ((2 ^ P.2.1)) (fun j hjN ih => ?_)
                refine z_iload hJ d_Mo_findShares_75 5 rfl ?_
                refine z_iconst (v := 1) hJ d_Mo_findShares_77 (by decide) ?_
                refine z_iload_n hJ d_Mo_findShares_78 1 rfl ?_
                refine z_ishl hJ d_Mo_findShares_79 ?_
                refine z_c (zshl1 (by omega)) ?_
                refine z_icmp_ge hJ d_Mo_findShares_80 (fun c_80 => ?_) (fun c_80 => ?_)
                · skip
                  try dsimp only at c_80
                  have h_80 : (2 ^ P.2.1) ≤ j := by
                    have e := nI_leI (a := (2 ^ P.2.1)) (b := j) (by omega) (by omega)
                    exact e.mp c_80
                  obtain rfl : j = (2 ^ P.2.1) := by omega
                  refine z_aload_n hJ d_Mo_findShares_139 0 rfl ?_
                  refine z_get hJ d_Mo_findShares_140 hc_Mo f_Mo_26 0 rfl rfl (by decide) ?_
                  refine z_iload hJ d_Mo_findShares_143 3 rfl ?_
                  refine z_lload hJ d_Mo_findShares_145 4 rfl ?_
                  refine z_ldc2 hJ d_Mo_findShares_147 c_Mo_182 ?_
                  refine z_lmul hJ d_Mo_findShares_150 ?_
                  refine z_lload_n hJ d_Mo_findShares_151 2 rfl ?_
                  refine z_ldiv hJ d_Mo_findShares_152 (zfa_0 hP.1) ?_
                  refine z_last (w' := mV g a x0 x1 127 x3 (q_wgA P x4) (vp_updL (q_shs P x4 x5 p) (p) (q_sh (q_wgA P x4) P.2.1 p (2 ^ P.2.1) * 5040 / (zfa P.2.1).toInt64)) x6 x7 x8 x9 x10 x11 x12 x13 x14 x15 x16 x17 x18 x19 x20) hJ d_Mo_findShares_153 5 (p) rfl rfl (by omega) (by decide) rfl ?_
                  refine z_w (w' := mV g a x0 x1 127 x3 (q_wgA P x4) (q_shs P x4 x5 (p + 1)) x6 x7 x8 x9 x10 x11 x12 x13 x14 x15 x16 x17 x18 x19 x20) (by rw [q_shr_div hP.1 (q_wgA_i hG hP.2.1 x4) (show p < P.2.1 by omega), q_shs_s]) ?_
                  refine z_iinc (v := nI (p + 1)) (lv' := [(0, _), (1, _), (2, _), (4, _), (5, _), (7, _)]) hJ d_Mo_findShares_154 3 rfl (zinc _) (by decide) rfl ?_
                  refine z_goto hJ d_Mo_findShares_157 ?_
                  refine z_drop hJ [0, 1, 2, 3] rfl ?_
                  exact ih_p (by omega)
                · skip
                  try dsimp only at c_80
                  have h_80 : ¬ ((2 ^ P.2.1) ≤ j) := by
                    have e := nI_leI (a := (2 ^ P.2.1)) (b := j) (by omega) (by omega)
                    exact fun q => c_80 (e.mpr q)
                  refine z_lload hJ d_Mo_findShares_83 4 rfl ?_
                  refine z_iload hJ d_Mo_findShares_85 5 rfl ?_
                  refine z_iload hJ d_Mo_findShares_87 3 rfl ?_
                  refine z_callSi hJ (m_Mo_has (by omega) (by omega)) k_Mo_80 zL.nil d_Mo_findShares_89 rfl rfl (Nat.le_of_ble_eq_true rfl) ⟨by decide, by decide⟩ ?_
                  refine zb_eq hJ d_Mo_findShares_92 (fun c_92 => ?_) (fun c_92 => ?_)
                  · skip
                    try dsimp only at c_92
                    have hbl := q_bits_lt hP.1 (show p < P.2.1 by omega) (show j < 2 ^ P.2.1 by omega) c_92
                    have hbo := q_bor (show p < P.2.1 by omega) (show j < 2 ^ P.2.1 by omega)
                    refine z_iload hJ d_Mo_findShares_99 5 rfl ?_
                    refine z_callSi hJ (m_Mo_bits (by omega)) k_Mo_166 zL.nil d_Mo_findShares_101 rfl rfl (Nat.le_of_ble_eq_true rfl) ⟨by decide, by decide⟩ ?_
                    refine z_iload_n hJ d_Mo_findShares_104 1 rfl ?_
                    refine z_callSl hJ (m_Mo_ordersOf hbl hP.1) k_Mo_178 zL.nil d_Mo_findShares_105 rfl rfl (Nat.le_of_ble_eq_true rfl) ⟨by decide, by decide⟩ ?_
                    refine z_aload_n hJ d_Mo_findShares_108 0 rfl ?_
                    refine z_get hJ d_Mo_findShares_109 hc_Mo f_Mo_23 0 rfl rfl (by decide) ?_
                    refine z_iload hJ d_Mo_findShares_112 5 rfl ?_
                    refine z_iconst (v := 1) hJ d_Mo_findShares_114 (by decide) ?_
                    refine z_iload hJ d_Mo_findShares_115 3 rfl ?_
                    refine z_ishl hJ d_Mo_findShares_117 ?_
                    refine z_ior hJ d_Mo_findShares_118 ?_
                    refine z_c (y := nI (j ||| 2 ^ p)) (by rw [zshl1 (by omega), zor]) ?_
                    refine z_iald hJ d_Mo_findShares_119 4 (j ||| 2 ^ p) rfl rfl (by omega) (by decide) ?_
                    refine z_aload_n hJ d_Mo_findShares_120 0 rfl ?_
                    refine z_get hJ d_Mo_findShares_121 hc_Mo f_Mo_23 0 rfl rfl (by decide) ?_
                    refine z_iload hJ d_Mo_findShares_124 5 rfl ?_
                    refine z_iald hJ d_Mo_findShares_126 4 (j) rfl rfl (by omega) (by decide) ?_
                    refine z_isub hJ d_Mo_findShares_127 ?_
                    refine z_i2l hJ d_Mo_findShares_128 ?_
                    refine z_lmul hJ d_Mo_findShares_129 ?_
                    refine z_ladd hJ d_Mo_findShares_130 ?_
                    skip
                    refine z_lstore (lv' := [(0, _), (1, _), (2, _), (4, _), (5, _), (7, _)]) hJ d_Mo_findShares_131 (by decide) rfl ?_
                    refine z_iinc (v := nI (j + 1)) (lv' := [(0, _), (1, _), (2, _), (4, _), (5, _), (7, _)]) hJ d_Mo_findShares_133 5 rfl (zinc _) (by decide) rfl ?_
                    refine z_goto hJ d_Mo_findShares_136 ?_
                    have e := ih (by omega)
                    rw [q_sh_f c_92] at e
                    exact e
                  · skip
                    try dsimp only at c_92
                    refine z_lconst (v := 0) hJ d_Mo_findShares_95 (by decide) ?_
                    refine z_goto hJ d_Mo_findShares_96 ?_
                    refine z_ladd hJ d_Mo_findShares_130 ?_
                    refine z_cl (y := (q_sh (q_wgA P x4) P.2.1 p j)) (Int64.add_zero _) ?_
                    refine z_lstore (lv' := [(0, _), (1, _), (2, _), (4, _), (5, _), (7, _)]) hJ d_Mo_findShares_131 (by decide) rfl ?_
                    refine z_iinc (v := nI (j + 1)) (lv' := [(0, _), (1, _), (2, _), (4, _), (5, _), (7, _)]) hJ d_Mo_findShares_133 5 rfl (zinc _) (by decide) rfl ?_
                    refine z_goto hJ d_Mo_findShares_136 ?_
                    have e := ih (by omega)
                    rw [q_sh_t c_92] at e
                    exact e
              exact L75 0 (Nat.zero_le _)
          have e := L63 0 (Nat.zero_le _)
          rw [q_shs_0] at e
          exact e
        · skip
          try dsimp only at c_38
          have h_38 : ¬ ((2 ^ P.2.1) ≤ j) := by
            have e := nI_leI (a := (2 ^ P.2.1)) (b := j) (by omega) (by omega)
            exact fun q => c_38 (e.mpr q)
          refine z_aload_n hJ d_Mo_findShares_41 0 rfl ?_
          refine z_get hJ d_Mo_findShares_42 hc_Mo f_Mo_23 0 rfl rfl (by decide) ?_
          refine z_iload hJ d_Mo_findShares_45 3 rfl ?_
          refine z_aload_n hJ d_Mo_findShares_47 0 rfl ?_
          refine z_iload hJ d_Mo_findShares_48 3 rfl ?_
          refine z_callVi hJ (m_Mo_earnedBy (M := (x0, x1, 127, x3, q_wg P x4 j, x5, x6, x7, x8, x9, x10, x11, x12, x13, x14, x15, x16, x17, x18, x19, x20)) hR0 hP hG (by omega)) k_Mo_163 zL_mv d_Mo_findShares_50 hc_Mo 0 rfl rfl rfl (Nat.le_of_ble_eq_true rfl) ⟨by decide, by decide⟩ ?_
          refine z_iast (w' := mV g a x0 x1 127 x3 (upd (q_wg P x4 j) (j) (q_earn P (j &&& q_awk P))) x5 x6 x7 x8 x9 x10 x11 x12 x13 x14 x15 x16 x17 x18 x19 x20) hJ d_Mo_findShares_53 4 (j) rfl rfl (by omega) (by decide) rfl ?_
          refine z_w (w' := mV g a x0 x1 127 x3 (q_wg P x4 (j + 1)) x5 x6 x7 x8 x9 x10 x11 x12 x13 x14 x15 x16 x17 x18 x19 x20) (by rw [q_wg_s]) ?_
          refine z_iinc (v := nI (j + 1)) (lv' := [(0, _), (1, _), (2, _), (4, _)]) hJ d_Mo_findShares_54 3 rfl (zinc _) (by decide) rfl ?_
          refine z_goto hJ d_Mo_findShares_57 ?_
          exact ih (by omega)
      have e := L33 0 (Nat.zero_le _)
      rw [q_wg_0, ← q_fc_n hP.1] at e
      exact e
    · skip
      try dsimp only at c_15
      have h_15 : ¬ (P.2.1 < (j + 2)) := by
        have e := nI_ltI (a := P.2.1) (b := (j + 2)) (by omega) (by omega)
        exact fun q => c_15 (e.mpr q)
      refine z_lload_n hJ d_Mo_findShares_18 2 rfl ?_
      refine z_iload hJ d_Mo_findShares_19 3 rfl ?_
      refine z_i2l hJ d_Mo_findShares_21 ?_
      refine z_lmul hJ d_Mo_findShares_22 ?_
      refine z_lstore_n (lv' := [(0, _), (1, _), (2, _), (4, _)]) hJ d_Mo_findShares_23 (by decide) rfl ?_
      refine z_iinc (v := nI ((j + 2) + 1)) (lv' := [(0, _), (1, _), (2, _), (4, _)]) hJ d_Mo_findShares_24 3 rfl (zinc _) (by decide) rfl ?_
      refine z_goto hJ d_Mo_findShares_27 ?_
      exact ih (by omega)
  exact L12 0 (Nat.zero_le _)
set_option maxRecDepth 100000 in
theorem m_Mo_share {g : Nat → Nat → Nat} {a : Nat → Nat} {x0 : Nat → Int32} {x1 : Nat → Int32} {x3 : Nat → Int32} {x4 : Nat → Int32} {x5 : Nat → Int64} {x6 : Nat → Int32} {x7 : Nat} {x8 : Int32} {x9 : Nat} {x10 : Nat} {x11 : Int64} {x12 : Int32} {x13 : Bool} {x14 : Nat → Int32} {x15 : Nat → Int32} {x16 : Nat → Int64} {x17 : Nat → Int64} {x18 : Nat → Int32} {x19 : Nat → Int32} {x20 : Bool} {P : RS} {i : Int32} (hR0 : zRo P x0) (hP : zPi P) (hG : zRg P) : zM g y_Mo_share b_Mo_share 2 (some .long) 10 [.ref (a 0), .int i] (mV g a x0 x1 127 x3 x4 x5 x6 x7 x8 x9 x10 x11 x12 x13 x14 x15 x16 x17 x18 x19 x20) [.long (p_share x1 P x4 i).1] (mV g a x0 ((p_share x1 P x4 i).2.1) 127 x3 ((p_share x1 P x4 i).2.2) (if q_ix i P.2.1 then q_shs P x4 x5 P.2.1 else x5) x6 x7 x8 x9 x10 x11 x12 x13 x14 x15 x16 x17 x18 x19 x20) := by
  refine zMl (lv := [(0, .ref (a 0)), (1, .int i)]) (by decide) (Nat.le_of_ble_eq_true rfl) rfl (fun J hJ hR => ?_)
  rcases q_ix_or i (n := P.2.1) (by first | exact Nat.le_trans hP.1 (by decide) | exact hP.2.1) with ⟨j, hj, rfl⟩ | hq
  · have hj7 := hP.1
    have hj8 := hP.2.1
    have hq := q_ix_t hj (n := P.2.1) (by omega)
    have hcl : (nI j).toNatClampNeg = j := nI_clamp (by omega)
    refine z_aload_n hJ d_Mo_share_0 0 rfl ?_
    refine z_iload_n hJ d_Mo_share_1 1 rfl ?_
    refine z_callVi hJ (m_Mo_isOne (M := (x0, x1, 127, x3, x4, x5, x6, x7, x8, x9, x10, x11, x12, x13, x14, x15, x16, x17, x18, x19, x20)) hR0) k_Mo_96 zL_mv d_Mo_share_2 hc_Mo 0 rfl rfl rfl (Nat.le_of_ble_eq_true rfl) ⟨by decide, by decide⟩ ?_
    refine zb_ne hJ d_Mo_share_5 (fun c_5 => ?_) (fun c_5 => False.elim (by rw [hq] at c_5; exact absurd c_5 (by decide)))
    refine z_aload_n hJ d_Mo_share_16 0 rfl ?_
    refine z_callVv hJ (m_Mo_findShares hR0 hP hG) k_Mo_184 zL.id d_Mo_share_17 hc_Mo 0 rfl rfl rfl (Nat.le_of_ble_eq_true rfl) ⟨by decide, by decide⟩ ?_
    refine z_aload_n hJ d_Mo_share_20 0 rfl ?_
    refine z_get hJ d_Mo_share_21 hc_Mo f_Mo_26 0 rfl rfl (by decide) ?_
    refine z_iload_n hJ d_Mo_share_24 1 rfl ?_
    refine z_lald hJ d_Mo_share_25 5 (j) rfl rfl (by omega) (by decide) ?_
    exact z_rl hR d_Mo_share_26 (by simp [p_share, hq, hcl, q_shs, hj]) (by simp [p_share, hq, hcl])
  · skip
    refine z_aload_n hJ d_Mo_share_0 0 rfl ?_
    refine z_iload_n hJ d_Mo_share_1 1 rfl ?_
    refine z_callVi hJ (m_Mo_isOne (M := (x0, x1, 127, x3, x4, x5, x6, x7, x8, x9, x10, x11, x12, x13, x14, x15, x16, x17, x18, x19, x20)) hR0) k_Mo_96 zL_mv d_Mo_share_2 hc_Mo 0 rfl rfl rfl (Nat.le_of_ble_eq_true rfl) ⟨by decide, by decide⟩ ?_
    refine zb_ne hJ d_Mo_share_5 (fun c_5 => False.elim (by rw [hq] at c_5; exact absurd c_5 (by decide))) (fun c_5 => ?_)
    refine z_aload_n hJ d_Mo_share_8 0 rfl ?_
    refine z_ldc hJ d_Mo_share_9 c_Mo_51 ?_
    refine z_callVi hJ m_Mo_finds_0 k_Mo_67 zL_mv d_Mo_share_11 hc_Mo 0 rfl rfl rfl (Nat.le_of_ble_eq_true rfl) ⟨by decide, by decide⟩ ?_
    refine z_i2l hJ d_Mo_share_14 ?_
    exact z_rl hR d_Mo_share_15 (by simp [p_share, hq, c_5]; try rfl) (by simp [p_share, hq, c_5])
set_option maxRecDepth 100000 in
theorem m_Mo_first {g : Nat → Nat → Nat} {a : Nat → Nat} {x0 : Nat → Int32} {x1 : Nat → Int32} {x3 : Nat → Int32} {x4 : Nat → Int32} {x5 : Nat → Int64} {x6 : Nat → Int32} {x7 : Nat} {x8 : Int32} {x9 : Nat} {x10 : Nat} {x11 : Int64} {x12 : Int32} {x13 : Bool} {x14 : Nat → Int32} {x15 : Nat → Int32} {x16 : Nat → Int64} {x17 : Nat → Int64} {x18 : Nat → Int32} {x19 : Nat → Int32} {x20 : Bool} {P : RS}  (hR0 : zRo P x0) (hP : zPi P) (hG : zRg P) : zM g y_Mo_first b_Mo_first 3 (some .int) 10 [.ref (a 0)] (mV g a x0 x1 127 x3 x4 x5 x6 x7 x8 x9 x10 x11 x12 x13 x14 x15 x16 x17 x18 x19 x20) [.int (p_first x1 P x4).1] (mV g a x0 ((p_first x1 P x4).2.1) 127 x3 (q_wgA P x4) (q_shs P x4 x5 P.2.1) x6 x7 x8 x9 x10 x11 x12 x13 x14 x15 x16 x17 x18 x19 x20) := by
  have hj7 := hP.1
  have hj8 := hP.2.1
  refine zMi (lv := [(0, .ref (a 0))]) (by decide) (Nat.le_of_ble_eq_true rfl) rfl (fun J hJ hR => ?_)
  refine z_aload_n hJ d_Mo_first_0 0 rfl ?_
  refine z_callVv hJ (m_Mo_findShares hR0 hP hG) k_Mo_184 zL.id d_Mo_first_1 hc_Mo 0 rfl rfl rfl (Nat.le_of_ble_eq_true rfl) ⟨by decide, by decide⟩ ?_
  refine z_iconst (v := (-1)) hJ d_Mo_first_4 (by decide) ?_
  refine z_istore_n (lv' := [(0, _), (1, _)]) hJ d_Mo_first_5 (by decide) rfl ?_
  refine z_iconst (v := 0) hJ d_Mo_first_6 (by decide) ?_
  refine z_istore_n (lv' := [(0, _), (1, _), (2, _)]) hJ d_Mo_first_7 (by decide) rfl ?_
  have L8 : ∀ j : Nat, j ≤ P.2.1 → J (mV g a x0 x1 127 x3 (q_wgA P x4) (q_shs P x4 x5 P.2.1) x6 x7 x8 x9 x10 x11 x12 x13 x14 x15 x16 x17 x18 x19 x20) 8 [(0, .ref (a 0)), (1, .int (q_fb (q_shs P x4 x5 P.2.1) j)), (2, .int (nI j))] [] := by
    refine zloop (P.2.1) (fun j hjN ih => ?_)
    refine z_iload_n hJ d_Mo_first_8 2 rfl ?_
    refine z_aload_n hJ d_Mo_first_9 0 rfl ?_
    refine z_get hJ d_Mo_first_10 hc_Mo f_Mo_7 0 rfl rfl (by decide) ?_
    refine z_iconst (v := 1) hJ d_Mo_first_13 (by decide) ?_
    refine z_iald hJ d_Mo_first_14 1 (1) rfl rfl (by decide) (by decide) ?_
    refine z_c (y := nI P.2.1) hR0.2.1 ?_
    refine z_icmp_ge hJ d_Mo_first_15 (fun c_15 => ?_) (fun c_15 => ?_)
    · skip
      try dsimp only at c_15
      have h_15 : P.2.1 ≤ j := by
        have e := nI_leI (a := P.2.1) (b := j) (by omega) (by omega)
        exact e.mp c_15
      obtain rfl : j = P.2.1 := by omega
      refine z_iload_n hJ d_Mo_first_50 1 rfl ?_
      refine z_if_ge hJ d_Mo_first_51 (fun c_51 => ?_) (fun c_51 => ?_)
      · skip
        try dsimp only at c_51
        refine z_iload_n hJ d_Mo_first_63 1 rfl ?_
        exact z_ri hR d_Mo_first_64 (by
          have h0 := (q_fb_ge (by omega)).mp c_51
          rw [q_fb_p h0, p_first, if_neg h0]
          exact congrArg nI (q_ft_cg _ (fun p hp => by unfold q_shs; rw [if_pos hp]))) (by
          have h0 := (q_fb_ge (by omega)).mp c_51
          rw [p_first, if_neg h0])
      · skip
        try dsimp only at c_51
        refine z_aload_n hJ d_Mo_first_54 0 rfl ?_
        refine z_ldc hJ d_Mo_first_55 c_Mo_159 ?_
        refine z_callVi hJ m_Mo_finds_3 k_Mo_67 zL_mv d_Mo_first_57 hc_Mo 0 rfl rfl rfl (Nat.le_of_ble_eq_true rfl) ⟨by decide, by decide⟩ ?_
        refine z_goto hJ d_Mo_first_60 ?_
        exact z_ri hR d_Mo_first_64 (by rw [p_first, if_pos (Decidable.byContradiction (fun e => c_51 ((q_fb_ge (by omega)).mpr e)))]) (by rw [p_first, if_pos (Decidable.byContradiction (fun e => c_51 ((q_fb_ge (by omega)).mpr e)))])
    · skip
      try dsimp only at c_15
      have h_15 : ¬ (P.2.1 ≤ j) := by
        have e := nI_leI (a := P.2.1) (b := j) (by omega) (by omega)
        exact fun q => c_15 (e.mpr q)
      refine z_iload_n hJ d_Mo_first_18 1 rfl ?_
      refine z_if_lt hJ d_Mo_first_19 (fun c_19 => ?_) (fun c_19 => ?_)
      · skip
        try dsimp only at c_19
        have hj0 := (q_fb_neg (by omega)).mp c_19
        refine z_iload_n hJ d_Mo_first_38 2 rfl ?_
        refine z_goto hJ d_Mo_first_39 ?_
        refine z_istore_n (lv' := [(0, _), (1, _), (2, _)]) hJ d_Mo_first_43 (by decide) rfl ?_
        refine z_iinc (v := nI (j + 1)) (lv' := [(0, _), (1, _), (2, _)]) hJ d_Mo_first_44 2 rfl (zinc _) (by decide) rfl ?_
        refine z_goto hJ d_Mo_first_47 ?_
        have e := ih (by omega)
        rw [q_fb_p (by omega), hj0, q_ft_1] at e
        rw [hj0] at *
        exact e
      · skip
        try dsimp only at c_19
        have hj0 : ¬ j = 0 := fun e => c_19 ((q_fb_neg (by omega)).mpr e)
        have hft := q_ft_7 (q_shs P x4 x5 P.2.1) hj0
        refine z_aload_n hJ d_Mo_first_22 0 rfl ?_
        refine z_get hJ d_Mo_first_23 hc_Mo f_Mo_26 0 rfl rfl (by decide) ?_
        refine z_iload_n hJ d_Mo_first_26 2 rfl ?_
        refine z_lald hJ d_Mo_first_27 5 (j) rfl rfl (by omega) (by decide) ?_
        refine z_aload_n hJ d_Mo_first_28 0 rfl ?_
        refine z_get hJ d_Mo_first_29 hc_Mo f_Mo_26 0 rfl rfl (by decide) ?_
        refine z_iload_n hJ d_Mo_first_32 1 rfl ?_
        refine z_c (y := nI (q_ft (q_shs P x4 x5 P.2.1) j)) (q_fb_p hj0) ?_
        refine z_lald hJ d_Mo_first_33 5 (q_ft (q_shs P x4 x5 P.2.1) j) rfl rfl (by omega) (by decide) ?_
        refine z_lcmp hJ d_Mo_first_34 ?_
        refine z_if_le hJ d_Mo_first_35 (fun c_35 => ?_) (fun c_35 => ?_)
        · skip
          try dsimp only at c_35
          refine z_iload_n hJ d_Mo_first_42 1 rfl ?_
          refine z_istore_n (lv' := [(0, _), (1, _), (2, _)]) hJ d_Mo_first_43 (by decide) rfl ?_
          refine z_iinc (v := nI (j + 1)) (lv' := [(0, _), (1, _), (2, _)]) hJ d_Mo_first_44 2 rfl (zinc _) (by decide) rfl ?_
          refine z_goto hJ d_Mo_first_47 ?_
          have e := ih (by omega)
          rw [q_fb_p (by omega), q_ft_f c_35, ← q_fb_p hj0] at e
          exact e
        · skip
          try dsimp only at c_35
          refine z_iload_n hJ d_Mo_first_38 2 rfl ?_
          refine z_goto hJ d_Mo_first_39 ?_
          refine z_istore_n (lv' := [(0, _), (1, _), (2, _)]) hJ d_Mo_first_43 (by decide) rfl ?_
          refine z_iinc (v := nI (j + 1)) (lv' := [(0, _), (1, _), (2, _)]) hJ d_Mo_first_44 2 rfl (zinc _) (by decide) rfl ?_
          refine z_goto hJ d_Mo_first_47 ?_
          have e := ih (by omega)
          rw [q_fb_p (by omega), q_ft_t c_35] at e
          exact e
  exact L8 0 (Nat.zero_le _)
