set_option maxRecDepth 100000 in
theorem m_Mo_count {g : Nat → Nat → Nat} {a : Nat → Nat} {x0 : Nat → Int32} {x1 : Nat → Int32} {x3 : Nat → Int32} {x4 : Nat → Int32} {x5 : Nat → Int64} {x6 : Nat → Int32} {x7 : Nat} {x8 : Int32} {x9 : Nat} {x10 : Nat} {x11 : Int64} {x12 : Int32} {x13 : Bool} {x14 : Nat → Int32} {x15 : Nat → Int32} {x16 : Nat → Int64} {x17 : Nat → Int64} {x18 : Nat → Int32} {x19 : Nat → Int32} {x20 : Bool} {P : RS} {tp : TS} {w : Int32} (hR0 : zRo P x0) (hP : zPi P) (hG : zRg P) (ht : tp.2.1 = x7) : zM g y_Mo_count b_Mo_count 5 (some .int) 2 [.ref (a 0), .int w] (mV g a x0 x1 127 x3 x4 x5 x6 x7 x8 x9 x10 x11 x12 x13 x14 x15 x16 x17 x18 x19 x20) [.int (p_count x1 P tp w).1] (mV g a x0 ((p_count x1 P tp w).2) 127 x3 x4 x5 x6 x7 x8 x9 x10 x11 x12 x13 x14 x15 x16 x17 x18 x19 x20) := by
  have hj7 := hP.1
  have hj8 := hP.2.1
  refine zMi (lv := [(0, .ref (a 0)), (1, .int w)]) (by decide) (Nat.le_of_ble_eq_true rfl) rfl (fun J hJ hR => ?_)
  refine z_iload_n hJ d_Mo_count_0 1 rfl ?_
  refine z_iconst (v := 0) hJ d_Mo_count_1 (by decide) ?_
  refine z_iconst (v := 4) hJ d_Mo_count_2 (by decide) ?_
  refine z_callSi hJ m_Mo_in k_Mo_52 zL.nil d_Mo_count_3 rfl rfl (Nat.le_of_ble_eq_true rfl) ⟨by decide, by decide⟩ ?_
  refine zb_ne hJ d_Mo_count_6 (fun c_6 => ?_) (fun c_6 => ?_)
  · skip
    try dsimp only at c_6
    refine z_iconst (v := 0) hJ d_Mo_count_16 (by decide) ?_
    refine z_istore_n (lv' := [(0, _), (1, _), (2, _)]) hJ d_Mo_count_17 (by decide) rfl ?_
    refine z_iconst (v := 0) hJ d_Mo_count_18 (by decide) ?_
    refine z_istore_n (lv' := [(0, _), (1, _), (2, _), (3, _)]) hJ d_Mo_count_19 (by decide) rfl ?_
    refine z_iconst (v := 0) hJ d_Mo_count_20 (by decide) ?_
    refine z_istore (lv' := [(0, _), (1, _), (2, _), (3, _), (4, _)]) hJ d_Mo_count_21 (by decide) rfl ?_
    have L23 : ∀ j : Nat, j ≤ P.2.1 → J (mV g a x0 x1 127 x3 x4 x5 x6 x7 x8 x9 x10 x11 x12 x13 x14 x15 x16 x17 x18 x19 x20) 23 [(0, .ref (a 0)), (1, .int w), (2, .int (q_sum (rs P) j)), (3, .int 0), (4, .int (nI j))] [] := by
      refine zloop (P.2.1) (fun j hjN ih => ?_)
      refine z_iload hJ d_Mo_count_23 4 rfl ?_
      refine z_aload_n hJ d_Mo_count_25 0 rfl ?_
      refine z_get hJ d_Mo_count_26 hc_Mo f_Mo_7 0 rfl rfl (by decide) ?_
      refine z_iconst (v := 1) hJ d_Mo_count_29 (by decide) ?_
      refine z_iald hJ d_Mo_count_30 1 (1) rfl rfl (by decide) (by decide) ?_
      refine z_c (y := nI P.2.1) hR0.2.1 ?_
      refine z_icmp_ge hJ d_Mo_count_31 (fun c_31 => ?_) (fun c_31 => ?_)
      · skip
        try dsimp only at c_31
        have h_31 : P.2.1 ≤ j := by
          have e := nI_leI (a := P.2.1) (b := j) (by omega) (by omega)
          exact e.mp c_31
        obtain rfl : j = P.2.1 := by omega
        refine z_iconst (v := 0) hJ d_Mo_count_50 (by decide) ?_
        refine z_istore (lv' := [(0, _), (1, _), (2, _), (3, _), (4, _)]) hJ d_Mo_count_51 (by decide) rfl ?_
        have L53 : ∀ j : Nat, j ≤ P.2.2.1 → J (mV g a x0 x1 127 x3 x4 x5 x6 x7 x8 x9 x10 x11 x12 x13 x14 x15 x16 x17 x18 x19 x20) 53 [(0, .ref (a 0)), (1, .int w), (2, .int (q_sum (rs P) P.2.1)), (3, .int (q_sum (rpa P) j)), (4, .int (nI j))] [] := by
          refine zloop (P.2.2.1) (fun j hjN ih => ?_)
          refine z_iload hJ d_Mo_count_53 4 rfl ?_
          refine z_aload_n hJ d_Mo_count_55 0 rfl ?_
          refine z_get hJ d_Mo_count_56 hc_Mo f_Mo_7 0 rfl rfl (by decide) ?_
          refine z_iconst (v := 2) hJ d_Mo_count_59 (by decide) ?_
          refine z_iald hJ d_Mo_count_60 1 (2) rfl rfl (by decide) (by decide) ?_
          refine z_c (y := nI P.2.2.1) hR0.2.2.1 ?_
          refine z_icmp_ge hJ d_Mo_count_61 (fun c_61 => ?_) (fun c_61 => ?_)
          · skip
            try dsimp only at c_61
            have h_61 : P.2.2.1 ≤ j := by
              have e := nI_leI (a := P.2.2.1) (b := j) (by omega) (by omega)
              exact e.mp c_61
            obtain rfl : j = P.2.2.1 := by omega
            refine z_iload_n hJ d_Mo_count_80 1 rfl ?_
            refine z_sw (tgt := 133) [(0, 112), (1, 119), (2, 126), (3, 131)] hJ d_Mo_count_81 (by decide) (by decide) ?_ (fun c_81 => ?_)
            · intro q hq e
              simp only [List.mem_cons, List.not_mem_nil, or_false] at hq
              rcases hq with rfl | rfl | rfl | rfl
              · have c_81 := e.trans (show Int32.ofInt 0 = 0 by decide)
                refine z_aload_n hJ d_Mo_count_112 0 rfl ?_
                refine z_get hJ d_Mo_count_113 hc_Mo f_Mo_7 0 rfl rfl (by decide) ?_
                refine z_iconst (v := 1) hJ d_Mo_count_116 (by decide) ?_
                refine z_iald hJ d_Mo_count_117 1 (1) rfl rfl (by decide) (by decide) ?_
                refine z_c (y := nI P.2.1) hR0.2.1 ?_
                exact z_ri hR d_Mo_count_118 (by simp [p_count, ht, c_81]) (by simp [p_count, c_81])
              · have c_81 := e.trans (show Int32.ofInt 1 = 1 by decide)
                refine z_aload_n hJ d_Mo_count_119 0 rfl ?_
                refine z_get hJ d_Mo_count_120 hc_Mo f_Mo_7 0 rfl rfl (by decide) ?_
                refine z_iconst (v := 2) hJ d_Mo_count_123 (by decide) ?_
                refine z_iald hJ d_Mo_count_124 1 (2) rfl rfl (by decide) (by decide) ?_
                refine z_c (y := nI P.2.2.1) hR0.2.2.1 ?_
                exact z_ri hR d_Mo_count_125 (by simp [p_count, ht, c_81]) (by simp [p_count, c_81])
              · have c_81 := e.trans (show Int32.ofInt 2 = 2 by decide)
                refine z_aload_n hJ d_Mo_count_126 0 rfl ?_
                refine z_get hJ d_Mo_count_127 hc_Mo f_Mo_187 0 rfl rfl (by decide) ?_
                exact z_ri hR d_Mo_count_130 (by simp [p_count, ht, c_81]) (by simp [p_count, c_81])
              · have c_81 := e.trans (show Int32.ofInt 3 = 3 by decide)
                refine z_iload_n hJ d_Mo_count_131 2 rfl ?_
                exact z_ri hR d_Mo_count_132 (by simp [p_count, ht, c_81]) (by simp [p_count, c_81])
            · skip
              have s_0 : ¬ w = 0 := fun e => by rw [e] at c_81; exact absurd c_81 (by decide)
              have s_1 : ¬ w = 1 := fun e => by rw [e] at c_81; exact absurd c_81 (by decide)
              have s_2 : ¬ w = 2 := fun e => by rw [e] at c_81; exact absurd c_81 (by decide)
              have s_3 : ¬ w = 3 := fun e => by rw [e] at c_81; exact absurd c_81 (by decide)
              have w4 : w = 4 := by
                obtain ⟨c, hc, rfl⟩ := q_in_nat (n := 5) (by decide) (show q_in w 0 (nI 5 - 1) = true from c_6)
                obtain rfl | rfl | rfl | rfl | rfl : c = 0 ∨ c = 1 ∨ c = 2 ∨ c = 3 ∨ c = 4 := by omega
                · exact absurd rfl s_0
                · exact absurd rfl s_1
                · exact absurd rfl s_2
                · exact absurd rfl s_3
                · rfl
              refine z_iload_n hJ d_Mo_count_133 3 rfl ?_
              exact z_ri hR d_Mo_count_134 (by simp [p_count, w4, s_0, s_1, s_2, s_3]) (by simp [p_count, w4])
          · skip
            try dsimp only at c_61
            have h_61 : ¬ (P.2.2.1 ≤ j) := by
              have e := nI_leI (a := P.2.2.1) (b := j) (by omega) (by omega)
              exact fun q => c_61 (e.mpr q)
            refine z_iload_n hJ d_Mo_count_64 3 rfl ?_
            refine z_aload_n hJ d_Mo_count_65 0 rfl ?_
            refine z_iload hJ d_Mo_count_66 4 rfl ?_
            refine z_iconst (v := 3) hJ d_Mo_count_68 (by decide) ?_
            refine z_callVi hJ (m_Mo_asks3 (M := (x0, x1, 127, x3, x4, x5, x6, x7, x8, x9, x10, x11, x12, x13, x14, x15, x16, x17, x18, x19, x20)) hR0 (by omega)) k_Mo_117 zL_mv d_Mo_count_69 hc_Mo 0 rfl rfl rfl (Nat.le_of_ble_eq_true rfl) ⟨by decide, by decide⟩ ?_
            refine z_iadd hJ d_Mo_count_72 ?_
            refine z_istore_n (lv' := [(0, _), (1, _), (2, _), (3, _), (4, _)]) hJ d_Mo_count_73 (by decide) rfl ?_
            refine z_iinc (v := nI (j + 1)) (lv' := [(0, _), (1, _), (2, _), (3, _), (4, _)]) hJ d_Mo_count_74 4 rfl (zinc _) (by decide) rfl ?_
            refine z_goto hJ d_Mo_count_77 ?_
            exact ih (by omega)
        exact L53 0 (Nat.zero_le _)
      · skip
        try dsimp only at c_31
        have h_31 : ¬ (P.2.1 ≤ j) := by
          have e := nI_leI (a := P.2.1) (b := j) (by omega) (by omega)
          exact fun q => c_31 (e.mpr q)
        refine z_iload_n hJ d_Mo_count_34 2 rfl ?_
        refine z_aload_n hJ d_Mo_count_35 0 rfl ?_
        refine z_iload hJ d_Mo_count_36 4 rfl ?_
        refine z_iconst (v := 3) hJ d_Mo_count_38 (by decide) ?_
        refine z_callVi hJ (m_Mo_its3 (M := (x0, x1, 127, x3, x4, x5, x6, x7, x8, x9, x10, x11, x12, x13, x14, x15, x16, x17, x18, x19, x20)) hR0 (by omega)) k_Mo_76 zL_mv d_Mo_count_39 hc_Mo 0 rfl rfl rfl (Nat.le_of_ble_eq_true rfl) ⟨by decide, by decide⟩ ?_
        refine z_iadd hJ d_Mo_count_42 ?_
        refine z_istore_n (lv' := [(0, _), (1, _), (2, _), (3, _), (4, _)]) hJ d_Mo_count_43 (by decide) rfl ?_
        refine z_iinc (v := nI (j + 1)) (lv' := [(0, _), (1, _), (2, _), (3, _), (4, _)]) hJ d_Mo_count_44 4 rfl (zinc _) (by decide) rfl ?_
        refine z_goto hJ d_Mo_count_47 ?_
        exact ih (by omega)
    exact L23 0 (Nat.zero_le _)
  · skip
    try dsimp only at c_6
    have k_ : ∀ k : Int32, q_in k 0 4 = true → ¬ w = k := fun k hk e => by rw [e, hk] at c_6; exact absurd c_6 (by decide)
    refine z_aload_n hJ d_Mo_count_9 0 rfl ?_
    refine z_ldc hJ d_Mo_count_10 c_Mo_51 ?_
    refine z_callVi hJ m_Mo_finds_0 k_Mo_67 zL_mv d_Mo_count_12 hc_Mo 0 rfl rfl rfl (Nat.le_of_ble_eq_true rfl) ⟨by decide, by decide⟩ ?_
    exact z_ri hR d_Mo_count_15 (by rw [p_count, if_neg (k_ 0 rfl), if_neg (k_ 1 rfl), if_neg (k_ 2 rfl), if_neg (k_ 3 rfl), if_neg (k_ 4 rfl)]) (by rw [p_count, if_neg (k_ 0 rfl), if_neg (k_ 1 rfl), if_neg (k_ 2 rfl), if_neg (k_ 3 rfl), if_neg (k_ 4 rfl)])
