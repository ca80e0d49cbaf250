set_option maxRecDepth 100000 in
theorem m_Mo_when {g : Nat → Nat → Nat} {a : Nat → Nat} {x0 : Nat → Int32} {x1 : Nat → Int32} {x3 : Nat → Int32} {x4 : Nat → Int32} {x5 : Nat → Int64} {x6 : Nat → Int32} {x7 : Nat} {x8 : Int32} {x9 : Nat} {x10 : Nat} {x11 : Int64} {x12 : Int32} {x13 : Bool} {x14 : Nat → Int32} {x15 : Nat → Int32} {x16 : Nat → Int64} {x17 : Nat → Int64} {x18 : Nat → Int32} {x19 : Nat → Int32} {x20 : Bool} {P : RS} {i : Int32} (hR0 : zRo P x0) (hP : zPi P) (hG : zRg P) : zM g y_Mo_when b_Mo_when 3 (some .int) 8 [.ref (a 0), .int i] (mV g a x0 x1 127 x3 x4 x5 x6 x7 x8 x9 x10 x11 x12 x13 x14 x15 x16 x17 x18 x19 x20) [.int (p_when x1 P P i).1] (mV g a x0 ((p_when x1 P P i).2.1) 127 (if q_ix i P.2.2.1 then x0 else x3) x4 x5 x6 x7 x8 x9 x10 x11 x12 x13 x14 x15 x16 x17 x18 x19 x20) := by
  refine zMi (lv := [(0, .ref (a 0)), (1, .int i)]) (by decide) (Nat.le_of_ble_eq_true rfl) rfl (fun J hJ hR => ?_)
  rcases q_ix_or i (n := P.2.2.1) (by first | exact Nat.le_trans hP.1 (by decide) | exact hP.2.1) with ⟨k, hj, rfl⟩ | hq
  · have hj7 := hP.1
    have hj8 := hP.2.1
    have hq := q_ix_t hj (n := P.2.2.1) (by omega)
    have hcl : (nI k).toNatClampNeg = k := nI_clamp (by omega)
    refine z_aload_n hJ d_Mo_when_0 0 rfl ?_
    refine z_iload_n hJ d_Mo_when_1 1 rfl ?_
    refine z_callVi hJ (m_Mo_isTask (M := (x0, x1, 127, x3, x4, x5, x6, x7, x8, x9, x10, x11, x12, x13, x14, x15, x16, x17, x18, x19, x20)) hR0) k_Mo_126 zL_mv d_Mo_when_2 hc_Mo 0 rfl rfl rfl (Nat.le_of_ble_eq_true rfl) ⟨by decide, by decide⟩ ?_
    refine zb_ne hJ d_Mo_when_5 (fun c_5 => ?_) (fun c_5 => False.elim (by rw [hq] at c_5; exact absurd c_5 (by decide)))
    refine z_aload_n hJ d_Mo_when_15 0 rfl ?_
    refine z_iconst (v := 1) hJ d_Mo_when_16 (by decide) ?_
    refine z_aload_n hJ d_Mo_when_17 0 rfl ?_
    refine z_get hJ d_Mo_when_18 hc_Mo f_Mo_20 0 rfl rfl (by decide) ?_
    refine z_callVv hJ m_Mo_moveAll_tried_k k_Mo_155 zL.id d_Mo_when_21 hc_Mo 0 rfl rfl rfl (Nat.le_of_ble_eq_true rfl) ⟨by decide, by decide⟩ ?_
    refine z_iconst (v := 0) hJ d_Mo_when_24 (by decide) ?_
    refine z_istore_n (lv' := [(0, _), (1, _), (2, _)]) hJ d_Mo_when_25 (by decide) rfl ?_
    have L26 : ∀ j : Nat, j ≤ 61 → q_find (q_mw P k) j (61 - j) = q_find (q_mw P k) 0 61 → J (mV g a (q_hrN x0 P.2.1 j) x1 127 x0 x4 x5 x6 x7 x8 x9 x10 x11 x12 x13 x14 x15 x16 x17 x18 x19 x20) 26 [(0, .ref (a 0)), (1, .int (nI k)), (2, .int (nI j))] [] := by
      refine zloop (61) (fun j hjN ih => ?_)
      intro hf
      refine z_iload_n hJ d_Mo_when_26 2 rfl ?_
      refine z_bipush (v := 60) hJ d_Mo_when_27 (by decide) ?_
      refine z_icmp_gt hJ d_Mo_when_29 (fun c_29 => ?_) (fun c_29 => ?_)
      · skip
        try dsimp only at c_29
        have h_29 : 60 < j := by
          have e := nI_ltI (a := 60) (b := j) (by omega) (by omega)
          exact e.mp c_29
        have hj61 : j = 61 := by omega
        refine z_aload_n hJ d_Mo_when_50 0 rfl ?_
        refine z_iconst (v := 0) hJ d_Mo_when_51 (by decide) ?_
        refine z_aload_n hJ d_Mo_when_52 0 rfl ?_
        refine z_get hJ d_Mo_when_53 hc_Mo f_Mo_20 0 rfl rfl (by decide) ?_
        refine z_callVv hJ m_Mo_moveAll_tried_b k_Mo_155 zL.id d_Mo_when_56 hc_Mo 0 rfl rfl rfl (Nat.le_of_ble_eq_true rfl) ⟨by decide, by decide⟩ ?_
        refine z_iload_n hJ d_Mo_when_59 2 rfl ?_
        refine z_bipush (v := 60) hJ d_Mo_when_60 (by decide) ?_
        refine z_icmp_le hJ d_Mo_when_62 (fun c_62 => False.elim (by exact absurd c_62 (by rw [hj61]; decide))) (fun c_62 => ?_)
        refine z_aload_n hJ d_Mo_when_65 0 rfl ?_
        refine z_ldc hJ d_Mo_when_66 c_Mo_159 ?_
        refine z_callVi hJ m_Mo_finds_3 k_Mo_67 zL_mv d_Mo_when_68 hc_Mo 0 rfl rfl rfl (Nat.le_of_ble_eq_true rfl) ⟨by decide, by decide⟩ ?_
        refine z_goto hJ d_Mo_when_71 ?_
        exact z_ri hR d_Mo_when_75 (by
          have e : q_find (q_mw P k) 0 61 = none := by rw [← hf, hj61]; rfl
          simp [p_when, hq, hcl, e]) (by
          have e : q_find (q_mw P k) 0 61 = none := by rw [← hf, hj61]; rfl
          simp [p_when, hq, hcl, e])
      · skip
        try dsimp only at c_29
        have h_29 : ¬ (60 < j) := by
          have e := nI_ltI (a := 60) (b := j) (by omega) (by omega)
          exact fun q => c_29 (e.mpr q)
        refine z_aload_n hJ d_Mo_when_32 0 rfl ?_
        refine z_iload_n hJ d_Mo_when_33 1 rfl ?_
        refine z_callVi hJ (m_Mo_isMet7 (P := q_hN P j) (M := (q_hrN x0 P.2.1 j, x1, 127, x0, x4, x5, x6, x7, x8, x9, x10, x11, x12, x13, x14, x15, x16, x17, x18, x19, x20)) (t := k) (hR0.hN hP.1 j) (hP.hN j) (hG.hN j) rfl (by rw [(q_hN_n P j).2.1]; exact hj)) k_Mo_129 zL_mv d_Mo_when_34 hc_Mo 0 rfl rfl rfl (Nat.le_of_ble_eq_true rfl) ⟨by decide, by decide⟩ ?_
        refine zb_ne hJ d_Mo_when_37 (fun c_37 => ?_) (fun c_37 => ?_)
        · skip
          try dsimp only at c_37
          refine z_aload_n hJ d_Mo_when_50 0 rfl ?_
          refine z_iconst (v := 0) hJ d_Mo_when_51 (by decide) ?_
          refine z_aload_n hJ d_Mo_when_52 0 rfl ?_
          refine z_get hJ d_Mo_when_53 hc_Mo f_Mo_20 0 rfl rfl (by decide) ?_
          refine z_callVv hJ m_Mo_moveAll_tried_b k_Mo_155 zL.id d_Mo_when_56 hc_Mo 0 rfl rfl rfl (Nat.le_of_ble_eq_true rfl) ⟨by decide, by decide⟩ ?_
          refine z_iload_n hJ d_Mo_when_59 2 rfl ?_
          refine z_bipush (v := 60) hJ d_Mo_when_60 (by decide) ?_
          refine z_icmp_le hJ d_Mo_when_62 (fun c_62 => ?_) (fun c_62 => False.elim (by exact absurd (nI_le (a := j) (b := 60) (by omega) (by omega)) c_62))
          refine z_iload_n hJ d_Mo_when_74 2 rfl ?_
          exact z_ri hR d_Mo_when_75 (by
            have e : q_find (q_mw P k) 0 61 = some j := by rw [← hf, show 61 - j = (60 - j) + 1 by omega, q_find, ← q_mw_N, if_pos c_37]
            simp [p_when, hq, hcl, e]) (by
            have e : q_find (q_mw P k) 0 61 = some j := by rw [← hf, show 61 - j = (60 - j) + 1 by omega, q_find, ← q_mw_N, if_pos c_37]
            simp [p_when, hq, hcl, e])
        · skip
          try dsimp only at c_37
          refine z_aload_n hJ d_Mo_when_40 0 rfl ?_
          refine z_callVv hJ (m_Mo_oneHour ((q_hrN_1 x0 P.2.1 j).trans hR0.2.1) (by omega)) k_Mo_140 zL.id d_Mo_when_41 hc_Mo 0 rfl rfl rfl (Nat.le_of_ble_eq_true rfl) ⟨by decide, by decide⟩ ?_
          refine z_iinc (v := nI (j + 1)) (lv' := [(0, _), (1, _), (2, _)]) hJ d_Mo_when_44 2 rfl (zinc _) (by decide) rfl ?_
          refine z_goto hJ d_Mo_when_47 ?_
          exact ih (by omega) (by
            rw [← hf, show 61 - j = (61 - (j + 1)) + 1 by omega, q_find, ← q_mw_N, if_neg (by rw [c_37]; decide)])
    exact L26 0 (Nat.zero_le _) rfl
  · skip
    refine z_aload_n hJ d_Mo_when_0 0 rfl ?_
    refine z_iload_n hJ d_Mo_when_1 1 rfl ?_
    refine z_callVi hJ (m_Mo_isTask (M := (x0, x1, 127, x3, x4, x5, x6, x7, x8, x9, x10, x11, x12, x13, x14, x15, x16, x17, x18, x19, x20)) hR0) k_Mo_126 zL_mv d_Mo_when_2 hc_Mo 0 rfl rfl rfl (Nat.le_of_ble_eq_true rfl) ⟨by decide, by decide⟩ ?_
    refine zb_ne hJ d_Mo_when_5 (fun c_5 => False.elim (by rw [hq] at c_5; exact absurd c_5 (by decide))) (fun c_5 => ?_)
    refine z_aload_n hJ d_Mo_when_8 0 rfl ?_
    refine z_ldc hJ d_Mo_when_9 c_Mo_51 ?_
    refine z_callVi hJ m_Mo_finds_0 k_Mo_67 zL_mv d_Mo_when_11 hc_Mo 0 rfl rfl rfl (Nat.le_of_ble_eq_true rfl) ⟨by decide, by decide⟩ ?_
    exact z_ri hR d_Mo_when_14 (by simp [p_when, hq, c_5]; try rfl) (by simp [p_when, hq, c_5])
set_option maxRecDepth 100000 in
theorem m_Mo_best {g : Nat → Nat → Nat} {a : Nat → Nat} {x0 : Nat → Int32} {x1 : Nat → Int32} {x3 : Nat → Int32} {x4 : Nat → Int32} {x5 : Nat → Int64} {x6 : Nat → Int32} {x7 : Nat} {x8 : Int32} {x9 : Nat} {x10 : Nat} {x11 : Int64} {x12 : Int32} {x13 : Bool} {x14 : Nat → Int32} {x15 : Nat → Int32} {x16 : Nat → Int64} {x17 : Nat → Int64} {x18 : Nat → Int32} {x19 : Nat → Int32} {x20 : Bool} {P : RS}  (hR0 : zRo P x0) (hP : zPi P) (hG : zRg P) : zM g y_Mo_best b_Mo_best 5 (some .int) 8 [.ref (a 0)] (mV g a x0 x1 127 x3 x4 x5 x6 x7 x8 x9 x10 x11 x12 x13 x14 x15 x16 x17 x18 x19 x20) [.int (p_best P)] (mV g a x0 x1 127 x0 x4 x5 x6 x7 x8 x9 x10 x11 x12 x13 x14 x15 x16 x17 x18 x19 x20) := by
  have hj7 := hP.1
  have hj8 := hP.2.1
  have hb1 := q_bst_1 hG hP.2.1
  refine zMi (lv := [(0, .ref (a 0))]) (by decide) (Nat.le_of_ble_eq_true rfl) rfl (fun J hJ hR => ?_)
  refine z_aload_n hJ d_Mo_best_0 0 rfl ?_
  refine z_iconst (v := 1) hJ d_Mo_best_1 (by decide) ?_
  refine z_aload_n hJ d_Mo_best_2 0 rfl ?_
  refine z_get hJ d_Mo_best_3 hc_Mo f_Mo_20 0 rfl rfl (by decide) ?_
  refine z_callVv hJ m_Mo_moveAll_tried_k k_Mo_155 zL.id d_Mo_best_6 hc_Mo 0 rfl rfl rfl (Nat.le_of_ble_eq_true rfl) ⟨by decide, by decide⟩ ?_
  refine z_iconst (v := 0) hJ d_Mo_best_9 (by decide) ?_
  refine z_c (y := nI (q_bst (q_ew P) 1).1) (by rw [hb1]; rfl) ?_
  refine z_istore_n (lv' := [(0, _), (1, _)]) hJ d_Mo_best_10 (by decide) rfl ?_
  refine z_aload_n hJ d_Mo_best_11 0 rfl ?_
  refine z_callVi hJ (m_Mo_earned7 (P := P) (M := (x0, x1, 127, x0, x4, x5, x6, x7, x8, x9, x10, x11, x12, x13, x14, x15, x16, x17, x18, x19, x20)) hR0 hP hG rfl) k_Mo_135 zL_mv d_Mo_best_12 hc_Mo 0 rfl rfl rfl (Nat.le_of_ble_eq_true rfl) ⟨by decide, by decide⟩ ?_
  refine z_c (y := (q_bst (q_ew P) 1).2) (by rw [hb1]; rfl) ?_
  refine z_istore_n (lv' := [(0, _), (1, _), (2, _)]) hJ d_Mo_best_15 (by decide) rfl ?_
  refine z_iconst (v := 1) hJ d_Mo_best_16 (by decide) ?_
  refine z_istore_n (lv' := [(0, _), (1, _), (2, _), (3, _)]) hJ d_Mo_best_17 (by decide) rfl ?_
  have L18 : ∀ j : Nat, j ≤ 60 → J (mV g a (q_hrN x0 P.2.1 j) x1 127 x0 x4 x5 x6 x7 x8 x9 x10 x11 x12 x13 x14 x15 x16 x17 x18 x19 x20) 18 [(0, .ref (a 0)), (1, .int (nI (q_bst (q_ew P) (j + 1)).1)), (2, .int (q_bst (q_ew P) (j + 1)).2), (3, .int (nI (j + 1)))] [] := by
    refine zloop (60) (fun j hjN ih => ?_)
    refine z_iload_n hJ d_Mo_best_18 3 rfl ?_
    refine z_bipush (v := 60) hJ d_Mo_best_19 (by decide) ?_
    refine z_icmp_gt hJ d_Mo_best_21 (fun c_21 => ?_) (fun c_21 => ?_)
    · skip
      try dsimp only at c_21
      have h_21 : 60 < (j + 1) := by
        have e := nI_ltI (a := 60) (b := (j + 1)) (by omega) (by omega)
        exact e.mp c_21
      obtain rfl : j = 60 := by omega
      refine z_aload_n hJ d_Mo_best_65 0 rfl ?_
      refine z_iconst (v := 0) hJ d_Mo_best_66 (by decide) ?_
      refine z_aload_n hJ d_Mo_best_67 0 rfl ?_
      refine z_get hJ d_Mo_best_68 hc_Mo f_Mo_20 0 rfl rfl (by decide) ?_
      refine z_callVv hJ m_Mo_moveAll_tried_b k_Mo_155 zL.id d_Mo_best_71 hc_Mo 0 rfl rfl rfl (Nat.le_of_ble_eq_true rfl) ⟨by decide, by decide⟩ ?_
      refine z_iload_n hJ d_Mo_best_74 1 rfl ?_
      exact z_ri hR d_Mo_best_75 rfl rfl
    · skip
      try dsimp only at c_21
      have h_21 : ¬ (60 < (j + 1)) := by
        have e := nI_ltI (a := 60) (b := (j + 1)) (by omega) (by omega)
        exact fun q => c_21 (e.mpr q)
      refine z_aload_n hJ d_Mo_best_24 0 rfl ?_
      refine z_callVv hJ (m_Mo_oneHour ((q_hrN_1 x0 P.2.1 j).trans hR0.2.1) (by omega)) k_Mo_140 zL.id d_Mo_best_25 hc_Mo 0 rfl rfl rfl (Nat.le_of_ble_eq_true rfl) ⟨by decide, by decide⟩ ?_
      refine z_aload_n hJ d_Mo_best_28 0 rfl ?_
      refine z_callVi hJ (m_Mo_earned7 (P := q_hN P (j + 1)) (M := (q_hrN x0 P.2.1 (j + 1), x1, 127, x0, x4, x5, x6, x7, x8, x9, x10, x11, x12, x13, x14, x15, x16, x17, x18, x19, x20)) (hR0.hN hP.1 (j + 1)) (hP.hN (j + 1)) (hG.hN (j + 1)) rfl) k_Mo_135 zL_mv d_Mo_best_29 hc_Mo 0 rfl rfl rfl (Nat.le_of_ble_eq_true rfl) ⟨by decide, by decide⟩ ?_
      refine z_c (y := q_ew P (j + 1)) (q_ew_N P (j + 1)) ?_
      refine z_istore (lv' := [(0, _), (1, _), (2, _), (3, _), (4, _)]) hJ d_Mo_best_32 (by decide) rfl ?_
      refine z_iload hJ d_Mo_best_34 4 rfl ?_
      refine z_iload_n hJ d_Mo_best_36 2 rfl ?_
      refine z_icmp_le hJ d_Mo_best_37 (fun c_37 => ?_) (fun c_37 => ?_)
      · skip
        try dsimp only at c_37
        refine z_iload_n hJ d_Mo_best_44 1 rfl ?_
        refine z_istore_n (lv' := [(0, _), (1, _), (2, _), (3, _), (4, _)]) hJ d_Mo_best_45 (by decide) rfl ?_
        refine z_iload hJ d_Mo_best_46 4 rfl ?_
        refine z_iload_n hJ d_Mo_best_48 2 rfl ?_
        refine z_icmp_le hJ d_Mo_best_49 (fun c_49 => ?_) (fun c_49 => ?_)
        · skip
          try dsimp only at c_49
          refine z_iload_n hJ d_Mo_best_57 2 rfl ?_
          refine z_istore_n (lv' := [(0, _), (1, _), (2, _), (3, _), (4, _)]) hJ d_Mo_best_58 (by decide) rfl ?_
          refine z_iinc (v := nI ((j + 1) + 1)) (lv' := [(0, _), (1, _), (2, _), (3, _), (4, _)]) hJ d_Mo_best_59 3 rfl (zinc _) (by decide) rfl ?_
          refine z_goto hJ d_Mo_best_62 ?_
          refine z_drop hJ [0, 1, 2, 3] rfl ?_
          have e := ih (by omega)
          rw [q_bst_f (e := q_ew P) c_37] at e
          exact e
        · skip
          try dsimp only at c_49
          refine z_iload hJ d_Mo_best_52 4 rfl ?_
          refine z_goto hJ d_Mo_best_54 ?_
          refine z_istore_n (lv' := [(0, _), (1, _), (2, _), (3, _), (4, _)]) hJ d_Mo_best_58 (by decide) rfl ?_
          refine z_iinc (v := nI ((j + 1) + 1)) (lv' := [(0, _), (1, _), (2, _), (3, _), (4, _)]) hJ d_Mo_best_59 3 rfl (zinc _) (by decide) rfl ?_
          refine z_goto hJ d_Mo_best_62 ?_
          refine z_drop hJ [0, 1, 2, 3] rfl ?_
          exact absurd c_37 c_49
      · skip
        try dsimp only at c_37
        refine z_iload_n hJ d_Mo_best_40 3 rfl ?_
        refine z_goto hJ d_Mo_best_41 ?_
        refine z_istore_n (lv' := [(0, _), (1, _), (2, _), (3, _), (4, _)]) hJ d_Mo_best_45 (by decide) rfl ?_
        refine z_iload hJ d_Mo_best_46 4 rfl ?_
        refine z_iload_n hJ d_Mo_best_48 2 rfl ?_
        refine z_icmp_le hJ d_Mo_best_49 (fun c_49 => ?_) (fun c_49 => ?_)
        · skip
          try dsimp only at c_49
          refine z_iload_n hJ d_Mo_best_57 2 rfl ?_
          refine z_istore_n (lv' := [(0, _), (1, _), (2, _), (3, _), (4, _)]) hJ d_Mo_best_58 (by decide) rfl ?_
          refine z_iinc (v := nI ((j + 1) + 1)) (lv' := [(0, _), (1, _), (2, _), (3, _), (4, _)]) hJ d_Mo_best_59 3 rfl (zinc _) (by decide) rfl ?_
          refine z_goto hJ d_Mo_best_62 ?_
          refine z_drop hJ [0, 1, 2, 3] rfl ?_
          exact absurd c_49 c_37
        · skip
          try dsimp only at c_49
          refine z_iload hJ d_Mo_best_52 4 rfl ?_
          refine z_goto hJ d_Mo_best_54 ?_
          refine z_istore_n (lv' := [(0, _), (1, _), (2, _), (3, _), (4, _)]) hJ d_Mo_best_58 (by decide) rfl ?_
          refine z_iinc (v := nI ((j + 1) + 1)) (lv' := [(0, _), (1, _), (2, _), (3, _), (4, _)]) hJ d_Mo_best_59 3 rfl (zinc _) (by decide) rfl ?_
          refine z_goto hJ d_Mo_best_62 ?_
          refine z_drop hJ [0, 1, 2, 3] rfl ?_
          have e := ih (by omega)
          rw [q_bst_t (e := q_ew P) c_37] at e
          exact e
  exact L18 0 (Nat.zero_le _)
