theorem q_in1 {i : Int32} (h : q_in i 1 60 = true) : ∃ m, 1 ≤ m ∧ m < 61 ∧ i = nI m := by
  have h0 : q_in i 0 (nI 61 - 1) = true := by
    unfold q_in at *
    simp only [Bool.and_eq_true, Bool.not_eq_true', decide_eq_false_iff_not] at *
    exact ⟨fun q => h.1 (Int32.lt_trans q (by decide)), h.2⟩
  obtain ⟨m, hm, e⟩ := q_in_nat (by decide) h0
  refine ⟨m, ?_, hm, e⟩
  rcases Nat.eq_zero_or_pos m with z | z
  · subst z; subst e; exact absurd h (by decide)
  · exact z
theorem q_hrN_0 (r : Nat → Int32) (n : Nat) : ∀ k, q_hrN r n k 0 = r 0
  | 0 => rfl
  | k + 1 => (q_hr_at _ n 0 (fun p hp => by omega)).trans (q_hrN_0 r n k)
theorem zRg_2 {P Q : RS} (e : P.2 = Q.2) (h : zRg P) (hv : ∃ h, h ≤ 9999 ∧ Q.1 = nI h) : zRg Q := by
  obtain ⟨p, X⟩ := P
  obtain ⟨q, Y⟩ := Q
  have e' : X = Y := e
  subst e'
  exact ⟨h.1, hv, fun i hi => h.2.2.1 i hi, fun i hi => h.2.2.2 i hi⟩
theorem zRg.go {P : RS} (h : zRg P) {k : Nat} (hk : k ≤ 61) {v : Int32} (hv : ∃ h, h ≤ 9999 ∧ v = nI h) : zRg (v, (q_go P (nI k)).2) := zRg_2 (P := q_hN P k) (q_hN_go h hk) (h.hN k) hv
theorem q_hr_add {v : Int32} (h : ∃ h, h ≤ 9999 ∧ v = nI h) {k : Nat} (hk : k ≤ 61) (hl : v + nI k ≤ 9999) : ∃ h, h ≤ 9999 ∧ v + nI k = nI h := by
  obtain ⟨x, hx, rfl⟩ := h
  rw [nI_add] at hl ⊢
  exact ⟨x + k, (nI_leI (a := x + k) (b := 9999) (by omega) (by omega)).mp hl, rfl⟩
set_option maxRecDepth 100000 in
theorem m_Mo_hours {g : Nat → Nat → Nat} {a : Nat → Nat} {x0 : Nat → Int32} {x1 : Nat → Int32} {x3 : Nat → Int32} {x4 : Nat → Int32} {x5 : Nat → Int64} {x6 : Nat → Int32} {x7 : Nat} {x8 : Int32} {x9 : Nat} {x10 : Nat} {x11 : Int64} {x12 : Int32} {x13 : Bool} {x14 : Nat → Int32} {x15 : Nat → Int32} {x16 : Nat → Int64} {x17 : Nat → Int64} {x18 : Nat → Int32} {x19 : Nat → Int32} {x20 : Bool} {P : RS} {n : Int32} (hR0 : zRo P x0) (hP : zPi P) (hG : zRg P) : zM g y_Mo_hours b_Mo_hours 3 (some .int) 8 [.ref (a 0), .int n] (mV g a x0 x1 127 x3 x4 x5 x6 x7 x8 x9 x10 x11 x12 x13 x14 x15 x16 x17 x18 x19 x20) [.int (p_hours x1 P n).1] (mV g a (if q_in n 1 60 && decide (P.1 + n ≤ 9999) then upd (q_hrN x0 P.2.1 n.toNatClampNeg) 0 (P.1 + n) else x0) ((p_hours x1 P n).2.1) 127 x3 x4 x5 x6 x7 x8 x9 x10 x11 x12 x13 x14 x15 x16 x17 x18 x19 x20) := by
  have hj7 := hP.1
  have hj8 := hP.2.1
  refine zMi (lv := [(0, .ref (a 0)), (1, .int n)]) (by decide) (Nat.le_of_ble_eq_true rfl) rfl (fun J hJ hR => ?_)
  refine z_iload_n hJ d_Mo_hours_0 1 rfl ?_
  refine z_iconst (v := 1) hJ d_Mo_hours_1 (by decide) ?_
  refine z_bipush (v := 60) hJ d_Mo_hours_2 (by decide) ?_
  refine z_callSi hJ m_Mo_in k_Mo_52 zL.nil d_Mo_hours_4 rfl rfl (Nat.le_of_ble_eq_true rfl) ⟨by decide, by decide⟩ ?_
  refine zb_ne hJ d_Mo_hours_7 (fun c_7 => ?_) (fun c_7 => ?_)
  · skip
    try dsimp only at c_7
    obtain ⟨c, hc1, hc, rfl⟩ := q_in1 c_7
    have hcl : (nI c).toNatClampNeg = c := nI_clamp (by omega)
    refine z_aload_n hJ d_Mo_hours_17 0 rfl ?_
    refine z_get hJ d_Mo_hours_18 hc_Mo f_Mo_7 0 rfl rfl (by decide) ?_
    refine z_iconst (v := 0) hJ d_Mo_hours_21 (by decide) ?_
    refine z_iald hJ d_Mo_hours_22 1 (0) rfl rfl (by decide) (by decide) ?_
    refine z_c (y := P.1) hR0.1 ?_
    refine z_iload_n hJ d_Mo_hours_23 1 rfl ?_
    refine z_iadd hJ d_Mo_hours_24 ?_
    refine z_sipush (v := 9999) hJ d_Mo_hours_25 (by decide) ?_
    refine z_icmp_le hJ d_Mo_hours_28 (fun c_28 => ?_) (fun c_28 => ?_)
    · skip
      try dsimp only at c_28
      refine z_iconst (v := 0) hJ d_Mo_hours_38 (by decide) ?_
      refine z_istore_n (lv' := [(0, _), (1, _), (2, _)]) hJ d_Mo_hours_39 (by decide) rfl ?_
      have L40 : ∀ j : Nat, j ≤ c → J (mV g a (q_hrN x0 P.2.1 j) x1 127 x3 x4 x5 x6 x7 x8 x9 x10 x11 x12 x13 x14 x15 x16 x17 x18 x19 x20) 40 [(0, .ref (a 0)), (1, .int (nI c)), (2, .int (nI j))] [] := by
        refine zloop (c) (fun j hjN ih => ?_)
        refine z_iload_n hJ d_Mo_hours_40 2 rfl ?_
        refine z_iload_n hJ d_Mo_hours_41 1 rfl ?_
        refine z_icmp_ge hJ d_Mo_hours_42 (fun c_42 => ?_) (fun c_42 => ?_)
        · skip
          try dsimp only at c_42
          have h_42 : c ≤ j := by
            have e := nI_leI (a := c) (b := j) (by omega) (by omega)
            exact e.mp c_42
          obtain rfl : j = c := by omega
          refine z_aload_n hJ d_Mo_hours_55 0 rfl ?_
          refine z_get hJ d_Mo_hours_56 hc_Mo f_Mo_7 0 rfl rfl (by decide) ?_
          refine z_iconst (v := 0) hJ d_Mo_hours_59 (by decide) ?_
          refine z_dup2 hJ d_Mo_hours_60 rfl rfl ?_
          refine z_iald hJ d_Mo_hours_61 1 (0) rfl rfl (by decide) (by decide) ?_
          refine z_c (y := P.1) ((q_hrN_0 _ _ _).trans hR0.1) ?_
          refine z_iload_n hJ d_Mo_hours_62 1 rfl ?_
          refine z_iadd hJ d_Mo_hours_63 ?_
          refine z_iast (w' := mV g a (upd (q_hrN x0 P.2.1 j) (0) (P.1 + nI j)) x1 127 x3 x4 x5 x6 x7 x8 x9 x10 x11 x12 x13 x14 x15 x16 x17 x18 x19 x20) hJ d_Mo_hours_64 1 (0) rfl rfl (by decide) (by decide) rfl ?_
          refine z_aload_n hJ d_Mo_hours_65 0 rfl ?_
          refine z_callVi hJ (m_Mo_earned7 (P := q_go P (nI j)) (M := (upd (q_hrN x0 P.2.1 j) 0 (P.1 + nI j), x1, 127, x3, x4, x5, x6, x7, x8, x9, x10, x11, x12, x13, x14, x15, x16, x17, x18, x19, x20)) ((hR0.go hG hP.1 (by omega)).hour (P.1 + nI j)) hP (hG.go (by omega) (q_hr_add hG.2.1 (by omega) c_28)) rfl) k_Mo_135 zL_mv d_Mo_hours_66 hc_Mo 0 rfl rfl rfl (Nat.le_of_ble_eq_true rfl) ⟨by decide, by decide⟩ ?_
          exact z_ri hR d_Mo_hours_69 (by simp [p_hours, hcl, c_7, c_28, c_42]; try rfl) (by simp [p_hours, hcl, c_7, c_28, c_42])
        · skip
          try dsimp only at c_42
          have h_42 : ¬ (c ≤ j) := by
            have e := nI_leI (a := c) (b := j) (by omega) (by omega)
            exact fun q => c_42 (e.mpr q)
          refine z_aload_n hJ d_Mo_hours_45 0 rfl ?_
          refine z_callVv hJ (m_Mo_oneHour ((q_hrN_1 x0 P.2.1 j).trans hR0.2.1) (by omega)) k_Mo_140 zL.id d_Mo_hours_46 hc_Mo 0 rfl rfl rfl (Nat.le_of_ble_eq_true rfl) ⟨by decide, by decide⟩ ?_
          refine z_iinc (v := nI (j + 1)) (lv' := [(0, _), (1, _), (2, _)]) hJ d_Mo_hours_49 2 rfl (zinc _) (by decide) rfl ?_
          refine z_goto hJ d_Mo_hours_52 ?_
          exact ih (by omega)
      exact L40 0 (Nat.zero_le _)
    · skip
      try dsimp only at c_28
      refine z_aload_n hJ d_Mo_hours_31 0 rfl ?_
      refine z_ldc hJ d_Mo_hours_32 c_Mo_139 ?_
      refine z_callVi hJ m_Mo_finds_4 k_Mo_67 zL_mv d_Mo_hours_34 hc_Mo 0 rfl rfl rfl (Nat.le_of_ble_eq_true rfl) ⟨by decide, by decide⟩ ?_
      exact z_ri hR d_Mo_hours_37 (by simp [p_hours, hcl, c_7, c_28]; try rfl) (by simp [p_hours, hcl, c_7, c_28])
  · skip
    try dsimp only at c_7
    refine z_aload_n hJ d_Mo_hours_10 0 rfl ?_
    refine z_ldc hJ d_Mo_hours_11 c_Mo_51 ?_
    refine z_callVi hJ m_Mo_finds_0 k_Mo_67 zL_mv d_Mo_hours_13 hc_Mo 0 rfl rfl rfl (Nat.le_of_ble_eq_true rfl) ⟨by decide, by decide⟩ ?_
    exact z_ri hR d_Mo_hours_16 (by simp [p_hours, c_7]; try rfl) (by simp [p_hours, c_7])
set_option maxRecDepth 100000 in
theorem m_Mo_on {g : Nat → Nat → Nat} {a : Nat → Nat} {x0 : Nat → Int32} {x1 : Nat → Int32} {x3 : Nat → Int32} {x4 : Nat → Int32} {x5 : Nat → Int64} {x6 : Nat → Int32} {x7 : Nat} {x8 : Int32} {x9 : Nat} {x10 : Nat} {x11 : Int64} {x12 : Int32} {x13 : Bool} {x14 : Nat → Int32} {x15 : Nat → Int32} {x16 : Nat → Int64} {x17 : Nat → Int64} {x18 : Nat → Int32} {x19 : Nat → Int32} {x20 : Bool} {P : RS} {n : Int32} (hR0 : zRo P x0) (hP : zPi P) (hG : zRg P) : zM g y_Mo_on b_Mo_on 3 (some .int) 8 [.ref (a 0), .int n] (mV g a x0 x1 127 x3 x4 x5 x6 x7 x8 x9 x10 x11 x12 x13 x14 x15 x16 x17 x18 x19 x20) [.int (p_on x1 P P n).1] (mV g a x0 ((p_on x1 P P n).2.1) 127 (if q_in n 0 60 then x0 else x3) x4 x5 x6 x7 x8 x9 x10 x11 x12 x13 x14 x15 x16 x17 x18 x19 x20) := by
  have hj7 := hP.1
  have hj8 := hP.2.1
  refine zMi (lv := [(0, .ref (a 0)), (1, .int n)]) (by decide) (Nat.le_of_ble_eq_true rfl) rfl (fun J hJ hR => ?_)
  refine z_iload_n hJ d_Mo_on_0 1 rfl ?_
  refine z_iconst (v := 0) hJ d_Mo_on_1 (by decide) ?_
  refine z_bipush (v := 60) hJ d_Mo_on_2 (by decide) ?_
  refine z_callSi hJ m_Mo_in k_Mo_52 zL.nil d_Mo_on_4 rfl rfl (Nat.le_of_ble_eq_true rfl) ⟨by decide, by decide⟩ ?_
  refine zb_ne hJ d_Mo_on_7 (fun c_7 => ?_) (fun c_7 => ?_)
  · skip
    try dsimp only at c_7
    obtain ⟨c, hc, rfl⟩ := q_in_nat (n := 61) (by decide) (show q_in n 0 (nI 61 - 1) = true from c_7)
    have hcl : (nI c).toNatClampNeg = c := nI_clamp (by omega)
    refine z_aload_n hJ d_Mo_on_17 0 rfl ?_
    refine z_iconst (v := 1) hJ d_Mo_on_18 (by decide) ?_
    refine z_aload_n hJ d_Mo_on_19 0 rfl ?_
    refine z_get hJ d_Mo_on_20 hc_Mo f_Mo_20 0 rfl rfl (by decide) ?_
    refine z_callVv hJ m_Mo_moveAll_tried_k k_Mo_155 zL.id d_Mo_on_23 hc_Mo 0 rfl rfl rfl (Nat.le_of_ble_eq_true rfl) ⟨by decide, by decide⟩ ?_
    refine z_iconst (v := 0) hJ d_Mo_on_26 (by decide) ?_
    refine z_istore_n (lv' := [(0, _), (1, _), (2, _)]) hJ d_Mo_on_27 (by decide) rfl ?_
    have L28 : ∀ j : Nat, j ≤ c → J (mV g a (q_hrN x0 P.2.1 j) x1 127 x0 x4 x5 x6 x7 x8 x9 x10 x11 x12 x13 x14 x15 x16 x17 x18 x19 x20) 28 [(0, .ref (a 0)), (1, .int (nI c)), (2, .int (nI j))] [] := by
      refine zloop (c) (fun j hjN ih => ?_)
      refine z_iload_n hJ d_Mo_on_28 2 rfl ?_
      refine z_iload_n hJ d_Mo_on_29 1 rfl ?_
      refine z_icmp_ge hJ d_Mo_on_30 (fun c_30 => ?_) (fun c_30 => ?_)
      · skip
        try dsimp only at c_30
        have h_30 : c ≤ j := by
          have e := nI_leI (a := c) (b := j) (by omega) (by omega)
          exact e.mp c_30
        obtain rfl : j = c := by omega
        refine z_aload_n hJ d_Mo_on_43 0 rfl ?_
        refine z_callVi hJ (m_Mo_metNow7 (P := (P.1, (q_go P (nI j)).2)) (M := (q_hrN x0 P.2.1 j, x1, 127, x0, x4, x5, x6, x7, x8, x9, x10, x11, x12, x13, x14, x15, x16, x17, x18, x19, x20)) (hR0.go hG hP.1 (by omega)) hP (hG.go (by omega) hG.2.1) rfl) k_Mo_143 zL_mv d_Mo_on_44 hc_Mo 0 rfl rfl rfl (Nat.le_of_ble_eq_true rfl) ⟨by decide, by decide⟩ ?_
        refine z_istore_n (lv' := [(0, _), (1, _), (2, _)]) hJ d_Mo_on_47 (by decide) rfl ?_
        refine z_aload_n hJ d_Mo_on_48 0 rfl ?_
        refine z_iconst (v := 0) hJ d_Mo_on_49 (by decide) ?_
        refine z_aload_n hJ d_Mo_on_50 0 rfl ?_
        refine z_get hJ d_Mo_on_51 hc_Mo f_Mo_20 0 rfl rfl (by decide) ?_
        refine z_callVv hJ m_Mo_moveAll_tried_b k_Mo_155 zL.id d_Mo_on_54 hc_Mo 0 rfl rfl rfl (Nat.le_of_ble_eq_true rfl) ⟨by decide, by decide⟩ ?_
        refine z_iload_n hJ d_Mo_on_57 2 rfl ?_
        exact z_ri hR d_Mo_on_58 (by unfold p_on; rw [if_pos c_7, q_metS_2 (P := (P.1, (q_go P (nI j)).2)) (Q := q_go P (nI j)) rfl]; rfl) (by unfold p_on; rw [if_pos c_7, if_pos c_7])
      · skip
        try dsimp only at c_30
        have h_30 : ¬ (c ≤ j) := by
          have e := nI_leI (a := c) (b := j) (by omega) (by omega)
          exact fun q => c_30 (e.mpr q)
        refine z_aload_n hJ d_Mo_on_33 0 rfl ?_
        refine z_callVv hJ (m_Mo_oneHour ((q_hrN_1 x0 P.2.1 j).trans hR0.2.1) (by omega)) k_Mo_140 zL.id d_Mo_on_34 hc_Mo 0 rfl rfl rfl (Nat.le_of_ble_eq_true rfl) ⟨by decide, by decide⟩ ?_
        refine z_iinc (v := nI (j + 1)) (lv' := [(0, _), (1, _), (2, _)]) hJ d_Mo_on_37 2 rfl (zinc _) (by decide) rfl ?_
        refine z_goto hJ d_Mo_on_40 ?_
        exact ih (by omega)
    exact L28 0 (Nat.zero_le _)
  · skip
    try dsimp only at c_7
    refine z_aload_n hJ d_Mo_on_10 0 rfl ?_
    refine z_ldc hJ d_Mo_on_11 c_Mo_51 ?_
    refine z_callVi hJ m_Mo_finds_0 k_Mo_67 zL_mv d_Mo_on_13 hc_Mo 0 rfl rfl rfl (Nat.le_of_ble_eq_true rfl) ⟨by decide, by decide⟩ ?_
    exact z_ri hR d_Mo_on_16 (by simp [p_on, c_7]; try rfl) (by simp [p_on, c_7])
set_option maxRecDepth 100000 in
theorem m_Mo_awake {g : Nat → Nat → Nat} {a : Nat → Nat} {x0 : Nat → Int32} {x1 : Nat → Int32} {x3 : Nat → Int32} {x4 : Nat → Int32} {x5 : Nat → Int64} {x6 : Nat → Int32} {x7 : Nat} {x8 : Int32} {x9 : Nat} {x10 : Nat} {x11 : Int64} {x12 : Int32} {x13 : Bool} {x14 : Nat → Int32} {x15 : Nat → Int32} {x16 : Nat → Int64} {x17 : Nat → Int64} {x18 : Nat → Int32} {x19 : Nat → Int32} {x20 : Bool} {P : RS}  (hR0 : zRo P x0) (hP : zPi P) (hG : zRg P) : zM g y_Mo_awake b_Mo_awake 1 (some .int) 10 [.ref (a 0)] (mV g a x0 x1 127 x3 x4 x5 x6 x7 x8 x9 x10 x11 x12 x13 x14 x15 x16 x17 x18 x19 x20) [.int (nI (q_bs (fun s => q_earn P (s &&& q_awk P)) (q_awk P) 128).1)] (mV g a x0 x1 127 x3 x4 x5 x6 x7 x8 x9 x10 x11 x12 x13 x14 x15 x16 x17 x18 x19 x20) := by
  refine zMi (lv := [(0, .ref (a 0))]) (by decide) (Nat.le_of_ble_eq_true rfl) rfl (fun J hJ hR => ?_)
  refine z_aload_n hJ d_Mo_awake_0 0 rfl ?_
  refine z_callVi hJ (m_Mo_bestSet hR0 hP hG) k_Mo_169 zL.id d_Mo_awake_1 hc_Mo 0 rfl rfl rfl (Nat.le_of_ble_eq_true rfl) ⟨by decide, by decide⟩ ?_
  exact z_ri hR d_Mo_awake_4 rfl rfl
set_option maxRecDepth 100000 in
theorem m_Mo_most {g : Nat → Nat → Nat} {a : Nat → Nat} {x0 : Nat → Int32} {x1 : Nat → Int32} {x3 : Nat → Int32} {x4 : Nat → Int32} {x5 : Nat → Int64} {x6 : Nat → Int32} {x7 : Nat} {x8 : Int32} {x9 : Nat} {x10 : Nat} {x11 : Int64} {x12 : Int32} {x13 : Bool} {x14 : Nat → Int32} {x15 : Nat → Int32} {x16 : Nat → Int64} {x17 : Nat → Int64} {x18 : Nat → Int32} {x19 : Nat → Int32} {x20 : Bool} {P : RS}  (hR0 : zRo P x0) (hP : zPi P) (hG : zRg P) : zM g y_Mo_most b_Mo_most 1 (some .int) 10 [.ref (a 0)] (mV g a x0 x1 127 x3 x4 x5 x6 x7 x8 x9 x10 x11 x12 x13 x14 x15 x16 x17 x18 x19 x20) [.int (q_earn P ((q_bs (fun s => q_earn P (s &&& q_awk P)) (q_awk P) 128).1 &&& q_awk P))] (mV g a x0 x1 127 x3 x4 x5 x6 x7 x8 x9 x10 x11 x12 x13 x14 x15 x16 x17 x18 x19 x20) := by
  have hbl := q_bs_le (fun s => q_earn P (s &&& q_awk P)) (q_awk P) 128
  refine zMi (lv := [(0, .ref (a 0))]) (by decide) (Nat.le_of_ble_eq_true rfl) rfl (fun J hJ hR => ?_)
  refine z_aload_n hJ d_Mo_most_0 0 rfl ?_
  refine z_aload_n hJ d_Mo_most_1 0 rfl ?_
  refine z_callVi hJ (m_Mo_bestSet hR0 hP hG) k_Mo_169 zL.id d_Mo_most_2 hc_Mo 0 rfl rfl rfl (Nat.le_of_ble_eq_true rfl) ⟨by decide, by decide⟩ ?_
  refine z_callVi hJ (m_Mo_earnedBy (M := (x0, x1, 127, x3, x4, x5, x6, x7, x8, x9, x10, x11, x12, x13, x14, x15, x16, x17, x18, x19, x20)) hR0 hP hG (by omega)) k_Mo_163 zL_mv d_Mo_most_5 hc_Mo 0 rfl rfl rfl (Nat.le_of_ble_eq_true rfl) ⟨by decide, by decide⟩ ?_
  exact z_ri hR d_Mo_most_8 rfl rfl
