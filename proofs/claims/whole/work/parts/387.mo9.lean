theorem q_w4 (w : Int32) : w = 1 ∨ w = 2 ∨ w = 3 ∨ w = 4 ∨ (¬ w = 1 ∧ ¬ w = 2 ∧ ¬ w = 3 ∧ ¬ w = 4) := by
  by_cases h1 : w = 1
  · exact Or.inl h1
  · by_cases h2 : w = 2
    · exact Or.inr (Or.inl h2)
    · by_cases h3 : w = 3
      · exact Or.inr (Or.inr (Or.inl h3))
      · by_cases h4 : w = 4
        · exact Or.inr (Or.inr (Or.inr (Or.inl h4)))
        · exact Or.inr (Or.inr (Or.inr (Or.inr ⟨h1, h2, h3, h4⟩)))
set_option maxRecDepth 100000 in
theorem m_Mo_set {g : Nat → Nat → Nat} {a : Nat → Nat} {x0 : Nat → Int32} {x1 : Nat → Int32} {x3 : Nat → Int32} {x4 : Nat → Int32} {x5 : Nat → Int64} {x6 : Nat → Int32} {x7 : Nat} {x8 : Int32} {x9 : Nat} {x10 : Nat} {x11 : Int64} {x12 : Int32} {x13 : Bool} {x14 : Nat → Int32} {x15 : Nat → Int32} {x16 : Nat → Int64} {x17 : Nat → Int64} {x18 : Nat → Int32} {x19 : Nat → Int32} {x20 : Bool} {P : RS} {i w v : Int32} (hR0 : zRo P x0) (hP : zPi P) (hG : zRg P) : zM g y_Mo_set b_Mo_set 6 (some .int) 2 [.ref (a 0), .int i, .int w, .int v] (mV g a x0 x1 127 x3 x4 x5 x6 x7 x8 x9 x10 x11 x12 x13 x14 x15 x16 x17 x18 x19 x20) [.int (p_set x1 P i w v).1] (mV g a (if q_ix i P.2.1 && q_may w v then upd x0 (3 + 5 * i.toNatClampNeg + w.toNatClampNeg) v else x0) ((p_set x1 P i w v).2.1) 127 x3 x4 x5 x6 x7 x8 x9 x10 x11 x12 x13 x14 x15 x16 x17 x18 x19 x20) := by
  refine zMi (lv := [(0, .ref (a 0)), (1, .int i), (2, .int w), (3, .int v)]) (by decide) (Nat.le_of_ble_eq_true rfl) rfl (fun J hJ hR => ?_)
  rcases q_w4 w with rfl | rfl | rfl | rfl | hw
  · have hj7 := hP.1
    have hj8 := hP.2.1
    have hcs : (0 : Nat) ≤ 1 := Nat.zero_le 1
    refine z_iload_n hJ d_Mo_set_0 2 rfl ?_
    refine z_iconst (v := 1) hJ d_Mo_set_1 (by decide) ?_
    refine z_icmp_eq hJ d_Mo_set_2 (fun _ => ?_) (fun c => absurd c (by decide))
    refine z_iload_n hJ d_Mo_set_10 3 rfl ?_
    refine z_callSi hJ m_Mo_isMile k_Mo_64 zL.nil d_Mo_set_11 rfl rfl (Nat.le_of_ble_eq_true rfl) ⟨by decide, by decide⟩ ?_
    refine z_goto hJ d_Mo_set_14 ?_
    refine z_istore (lv' := [(0, _), (1, _), (2, _), (3, _), (4, _)]) hJ d_Mo_set_51 (by decide) rfl ?_
    refine z_aload_n hJ d_Mo_set_53 0 rfl ?_
    refine z_iload_n hJ d_Mo_set_54 1 rfl ?_
    refine z_callVi hJ (m_Mo_isOne (M := (x0, x1, 127, x3, x4, x5, x6, x7, x8, x9, x10, x11, x12, x13, x14, x15, x16, x17, x18, x19, x20)) hR0) k_Mo_96 zL_mv d_Mo_set_55 hc_Mo 0 rfl rfl rfl (Nat.le_of_ble_eq_true rfl) ⟨by decide, by decide⟩ ?_
    refine zb_eq hJ d_Mo_set_58 (fun c_58 => ?_) (fun c_58 => ?_)
    · skip
      try dsimp only at c_58
      refine z_aload_n hJ d_Mo_set_66 0 rfl ?_
      refine z_ldc hJ d_Mo_set_67 c_Mo_51 ?_
      refine z_callVi hJ m_Mo_finds_0 k_Mo_67 zL_mv d_Mo_set_69 hc_Mo 0 rfl rfl rfl (Nat.le_of_ble_eq_true rfl) ⟨by decide, by decide⟩ ?_
      exact z_ri hR d_Mo_set_72 (by simp [p_set, q_may, c_58]; try rfl) (by simp [p_set, q_may, c_58]; try rfl)
    · skip
      try dsimp only at c_58
      obtain ⟨j, hj, rfl⟩ : ∃ j, j < P.2.1 ∧ i = nI j := by
        rcases q_ix_or i (n := P.2.1) (Nat.le_trans hP.1 (by decide)) with h | h
        · exact h
        · rw [h] at c_58; exact absurd c_58 (by decide)
      have hcl : (nI j).toNatClampNeg = j := nI_clamp (by have := hP.1; omega)
      refine z_iload hJ d_Mo_set_61 4 rfl ?_
      refine zb_ne hJ d_Mo_set_63 (fun c_63 => ?_) (fun c_63 => ?_)
      · skip
        try dsimp only at c_63
        refine z_aload_n hJ d_Mo_set_73 0 rfl ?_
        refine z_iload_n hJ d_Mo_set_74 1 rfl ?_
        refine z_iload_n hJ d_Mo_set_75 2 rfl ?_
        refine z_callVi hJ (m_Mo_its1 (M := (x0, x1, 127, x3, x4, x5, x6, x7, x8, x9, x10, x11, x12, x13, x14, x15, x16, x17, x18, x19, x20)) hR0 (by omega)) k_Mo_76 zL_mv d_Mo_set_76 hc_Mo 0 rfl rfl rfl (Nat.le_of_ble_eq_true rfl) ⟨by decide, by decide⟩ ?_
        refine z_istore (lv' := [(0, _), (1, _), (2, _), (3, _), (4, _), (5, _)]) hJ d_Mo_set_79 (by decide) rfl ?_
        refine z_aload_n hJ d_Mo_set_81 0 rfl ?_
        refine z_iload_n hJ d_Mo_set_82 1 rfl ?_
        refine z_iload_n hJ d_Mo_set_83 2 rfl ?_
        refine z_iload_n hJ d_Mo_set_84 3 rfl ?_
        refine z_callVv hJ (m_Mo_puts (M := (x0, x1, 127, x3, x4, x5, x6, x7, x8, x9, x10, x11, x12, x13, x14, x15, x16, x17, x18, x19, x20)) (p := j) (w := 1) (by omega) (by decide)) k_Mo_56 zL_mv d_Mo_set_85 hc_Mo 0 rfl rfl rfl (Nat.le_of_ble_eq_true rfl) ⟨by decide, by decide⟩ ?_
        refine z_iload hJ d_Mo_set_88 5 rfl ?_
        exact z_ri hR d_Mo_set_90 (by simp [p_set, q_may, hcl, c_58, c_63]; try rfl) (by simp [p_set, q_may, hcl, show (1 : Int32).toNatClampNeg = 1 from rfl, c_58, c_63]; try rfl)
      · skip
        try dsimp only at c_63
        refine z_aload_n hJ d_Mo_set_66 0 rfl ?_
        refine z_ldc hJ d_Mo_set_67 c_Mo_51 ?_
        refine z_callVi hJ m_Mo_finds_0 k_Mo_67 zL_mv d_Mo_set_69 hc_Mo 0 rfl rfl rfl (Nat.le_of_ble_eq_true rfl) ⟨by decide, by decide⟩ ?_
        exact z_ri hR d_Mo_set_72 (by simp [p_set, q_may, hcl, c_58, c_63]; try rfl) (by simp [p_set, q_may, hcl, show (1 : Int32).toNatClampNeg = 1 from rfl, c_58, c_63]; try rfl)
  · have hj7 := hP.1
    have hj8 := hP.2.1
    have hcs : (0 : Nat) ≤ 2 := Nat.zero_le 2
    refine z_iload_n hJ d_Mo_set_0 2 rfl ?_
    refine z_iconst (v := 1) hJ d_Mo_set_1 (by decide) ?_
    refine z_icmp_eq hJ d_Mo_set_2 (fun c => absurd c (by decide)) (fun _ => ?_)
    refine z_iload_n hJ d_Mo_set_5 2 rfl ?_
    refine z_iconst (v := 2) hJ d_Mo_set_6 (by decide) ?_
    refine z_icmp_ne hJ d_Mo_set_7 (fun c => absurd c (by decide)) (fun _ => ?_)
    refine z_iload_n hJ d_Mo_set_10 3 rfl ?_
    refine z_callSi hJ m_Mo_isMile k_Mo_64 zL.nil d_Mo_set_11 rfl rfl (Nat.le_of_ble_eq_true rfl) ⟨by decide, by decide⟩ ?_
    refine z_goto hJ d_Mo_set_14 ?_
    refine z_istore (lv' := [(0, _), (1, _), (2, _), (3, _), (4, _)]) hJ d_Mo_set_51 (by decide) rfl ?_
    refine z_aload_n hJ d_Mo_set_53 0 rfl ?_
    refine z_iload_n hJ d_Mo_set_54 1 rfl ?_
    refine z_callVi hJ (m_Mo_isOne (M := (x0, x1, 127, x3, x4, x5, x6, x7, x8, x9, x10, x11, x12, x13, x14, x15, x16, x17, x18, x19, x20)) hR0) k_Mo_96 zL_mv d_Mo_set_55 hc_Mo 0 rfl rfl rfl (Nat.le_of_ble_eq_true rfl) ⟨by decide, by decide⟩ ?_
    refine zb_eq hJ d_Mo_set_58 (fun c_58 => ?_) (fun c_58 => ?_)
    · skip
      try dsimp only at c_58
      refine z_aload_n hJ d_Mo_set_66 0 rfl ?_
      refine z_ldc hJ d_Mo_set_67 c_Mo_51 ?_
      refine z_callVi hJ m_Mo_finds_0 k_Mo_67 zL_mv d_Mo_set_69 hc_Mo 0 rfl rfl rfl (Nat.le_of_ble_eq_true rfl) ⟨by decide, by decide⟩ ?_
      exact z_ri hR d_Mo_set_72 (by simp [p_set, q_may, c_58]; try rfl) (by simp [p_set, q_may, c_58]; try rfl)
    · skip
      try dsimp only at c_58
      obtain ⟨j, hj, rfl⟩ : ∃ j, j < P.2.1 ∧ i = nI j := by
        rcases q_ix_or i (n := P.2.1) (Nat.le_trans hP.1 (by decide)) with h | h
        · exact h
        · rw [h] at c_58; exact absurd c_58 (by decide)
      have hcl : (nI j).toNatClampNeg = j := nI_clamp (by have := hP.1; omega)
      refine z_iload hJ d_Mo_set_61 4 rfl ?_
      refine zb_ne hJ d_Mo_set_63 (fun c_63 => ?_) (fun c_63 => ?_)
      · skip
        try dsimp only at c_63
        refine z_aload_n hJ d_Mo_set_73 0 rfl ?_
        refine z_iload_n hJ d_Mo_set_74 1 rfl ?_
        refine z_iload_n hJ d_Mo_set_75 2 rfl ?_
        refine z_callVi hJ (m_Mo_its2 (M := (x0, x1, 127, x3, x4, x5, x6, x7, x8, x9, x10, x11, x12, x13, x14, x15, x16, x17, x18, x19, x20)) hR0 (by omega)) k_Mo_76 zL_mv d_Mo_set_76 hc_Mo 0 rfl rfl rfl (Nat.le_of_ble_eq_true rfl) ⟨by decide, by decide⟩ ?_
        refine z_istore (lv' := [(0, _), (1, _), (2, _), (3, _), (4, _), (5, _)]) hJ d_Mo_set_79 (by decide) rfl ?_
        refine z_aload_n hJ d_Mo_set_81 0 rfl ?_
        refine z_iload_n hJ d_Mo_set_82 1 rfl ?_
        refine z_iload_n hJ d_Mo_set_83 2 rfl ?_
        refine z_iload_n hJ d_Mo_set_84 3 rfl ?_
        refine z_callVv hJ (m_Mo_puts (M := (x0, x1, 127, x3, x4, x5, x6, x7, x8, x9, x10, x11, x12, x13, x14, x15, x16, x17, x18, x19, x20)) (p := j) (w := 2) (by omega) (by decide)) k_Mo_56 zL_mv d_Mo_set_85 hc_Mo 0 rfl rfl rfl (Nat.le_of_ble_eq_true rfl) ⟨by decide, by decide⟩ ?_
        refine z_iload hJ d_Mo_set_88 5 rfl ?_
        exact z_ri hR d_Mo_set_90 (by simp [p_set, q_may, hcl, c_58, c_63]; try rfl) (by simp [p_set, q_may, hcl, show (2 : Int32).toNatClampNeg = 2 from rfl, c_58, c_63]; try rfl)
      · skip
        try dsimp only at c_63
        refine z_aload_n hJ d_Mo_set_66 0 rfl ?_
        refine z_ldc hJ d_Mo_set_67 c_Mo_51 ?_
        refine z_callVi hJ m_Mo_finds_0 k_Mo_67 zL_mv d_Mo_set_69 hc_Mo 0 rfl rfl rfl (Nat.le_of_ble_eq_true rfl) ⟨by decide, by decide⟩ ?_
        exact z_ri hR d_Mo_set_72 (by simp [p_set, q_may, hcl, c_58, c_63]; try rfl) (by simp [p_set, q_may, hcl, show (2 : Int32).toNatClampNeg = 2 from rfl, c_58, c_63]; try rfl)
  · have hj7 := hP.1
    have hj8 := hP.2.1
    have hcs : (0 : Nat) ≤ 3 := Nat.zero_le 3
    refine z_iload_n hJ d_Mo_set_0 2 rfl ?_
    refine z_iconst (v := 1) hJ d_Mo_set_1 (by decide) ?_
    refine z_icmp_eq hJ d_Mo_set_2 (fun c => absurd c (by decide)) (fun _ => ?_)
    refine z_iload_n hJ d_Mo_set_5 2 rfl ?_
    refine z_iconst (v := 2) hJ d_Mo_set_6 (by decide) ?_
    refine z_icmp_ne hJ d_Mo_set_7 (fun _ => ?_) (fun c => absurd c (by decide))
    refine z_iload_n hJ d_Mo_set_17 2 rfl ?_
    refine z_iconst (v := 3) hJ d_Mo_set_18 (by decide) ?_
    refine z_icmp_ne hJ d_Mo_set_19 (fun c => absurd c (by decide)) (fun _ => ?_)
    refine z_iload_n hJ d_Mo_set_22 3 rfl ?_
    refine z_iconst (v := 1) hJ d_Mo_set_23 (by decide) ?_
    refine z_bipush (v := 9) hJ d_Mo_set_24 (by decide) ?_
    refine z_callSi hJ m_Mo_in k_Mo_52 zL.nil d_Mo_set_26 rfl rfl (Nat.le_of_ble_eq_true rfl) ⟨by decide, by decide⟩ ?_
    refine z_goto hJ d_Mo_set_29 ?_
    refine z_istore (lv' := [(0, _), (1, _), (2, _), (3, _), (4, _)]) hJ d_Mo_set_51 (by decide) rfl ?_
    refine z_aload_n hJ d_Mo_set_53 0 rfl ?_
    refine z_iload_n hJ d_Mo_set_54 1 rfl ?_
    refine z_callVi hJ (m_Mo_isOne (M := (x0, x1, 127, x3, x4, x5, x6, x7, x8, x9, x10, x11, x12, x13, x14, x15, x16, x17, x18, x19, x20)) hR0) k_Mo_96 zL_mv d_Mo_set_55 hc_Mo 0 rfl rfl rfl (Nat.le_of_ble_eq_true rfl) ⟨by decide, by decide⟩ ?_
    refine zb_eq hJ d_Mo_set_58 (fun c_58 => ?_) (fun c_58 => ?_)
    · skip
      try dsimp only at c_58
      refine z_aload_n hJ d_Mo_set_66 0 rfl ?_
      refine z_ldc hJ d_Mo_set_67 c_Mo_51 ?_
      refine z_callVi hJ m_Mo_finds_0 k_Mo_67 zL_mv d_Mo_set_69 hc_Mo 0 rfl rfl rfl (Nat.le_of_ble_eq_true rfl) ⟨by decide, by decide⟩ ?_
      exact z_ri hR d_Mo_set_72 (by simp [p_set, q_may, c_58]; try rfl) (by simp [p_set, q_may, c_58]; try rfl)
    · skip
      try dsimp only at c_58
      obtain ⟨j, hj, rfl⟩ : ∃ j, j < P.2.1 ∧ i = nI j := by
        rcases q_ix_or i (n := P.2.1) (Nat.le_trans hP.1 (by decide)) with h | h
        · exact h
        · rw [h] at c_58; exact absurd c_58 (by decide)
      have hcl : (nI j).toNatClampNeg = j := nI_clamp (by have := hP.1; omega)
      refine z_iload hJ d_Mo_set_61 4 rfl ?_
      refine zb_ne hJ d_Mo_set_63 (fun c_63 => ?_) (fun c_63 => ?_)
      · skip
        try dsimp only at c_63
        refine z_aload_n hJ d_Mo_set_73 0 rfl ?_
        refine z_iload_n hJ d_Mo_set_74 1 rfl ?_
        refine z_iload_n hJ d_Mo_set_75 2 rfl ?_
        refine z_callVi hJ (m_Mo_its3 (M := (x0, x1, 127, x3, x4, x5, x6, x7, x8, x9, x10, x11, x12, x13, x14, x15, x16, x17, x18, x19, x20)) hR0 (by omega)) k_Mo_76 zL_mv d_Mo_set_76 hc_Mo 0 rfl rfl rfl (Nat.le_of_ble_eq_true rfl) ⟨by decide, by decide⟩ ?_
        refine z_istore (lv' := [(0, _), (1, _), (2, _), (3, _), (4, _), (5, _)]) hJ d_Mo_set_79 (by decide) rfl ?_
        refine z_aload_n hJ d_Mo_set_81 0 rfl ?_
        refine z_iload_n hJ d_Mo_set_82 1 rfl ?_
        refine z_iload_n hJ d_Mo_set_83 2 rfl ?_
        refine z_iload_n hJ d_Mo_set_84 3 rfl ?_
        refine z_callVv hJ (m_Mo_puts (M := (x0, x1, 127, x3, x4, x5, x6, x7, x8, x9, x10, x11, x12, x13, x14, x15, x16, x17, x18, x19, x20)) (p := j) (w := 3) (by omega) (by decide)) k_Mo_56 zL_mv d_Mo_set_85 hc_Mo 0 rfl rfl rfl (Nat.le_of_ble_eq_true rfl) ⟨by decide, by decide⟩ ?_
        refine z_iload hJ d_Mo_set_88 5 rfl ?_
        exact z_ri hR d_Mo_set_90 (by simp [p_set, q_may, hcl, c_58, c_63]; try rfl) (by simp [p_set, q_may, hcl, show (3 : Int32).toNatClampNeg = 3 from rfl, c_58, c_63]; try rfl)
      · skip
        try dsimp only at c_63
        refine z_aload_n hJ d_Mo_set_66 0 rfl ?_
        refine z_ldc hJ d_Mo_set_67 c_Mo_51 ?_
        refine z_callVi hJ m_Mo_finds_0 k_Mo_67 zL_mv d_Mo_set_69 hc_Mo 0 rfl rfl rfl (Nat.le_of_ble_eq_true rfl) ⟨by decide, by decide⟩ ?_
        exact z_ri hR d_Mo_set_72 (by simp [p_set, q_may, hcl, c_58, c_63]; try rfl) (by simp [p_set, q_may, hcl, show (3 : Int32).toNatClampNeg = 3 from rfl, c_58, c_63]; try rfl)
  · have hj7 := hP.1
    have hj8 := hP.2.1
    have hcs : (0 : Nat) ≤ 4 := Nat.zero_le 4
    refine z_iload_n hJ d_Mo_set_0 2 rfl ?_
    refine z_iconst (v := 1) hJ d_Mo_set_1 (by decide) ?_
    refine z_icmp_eq hJ d_Mo_set_2 (fun c => absurd c (by decide)) (fun _ => ?_)
    refine z_iload_n hJ d_Mo_set_5 2 rfl ?_
    refine z_iconst (v := 2) hJ d_Mo_set_6 (by decide) ?_
    refine z_icmp_ne hJ d_Mo_set_7 (fun _ => ?_) (fun c => absurd c (by decide))
    refine z_iload_n hJ d_Mo_set_17 2 rfl ?_
    refine z_iconst (v := 3) hJ d_Mo_set_18 (by decide) ?_
    refine z_icmp_ne hJ d_Mo_set_19 (fun _ => ?_) (fun c => absurd c (by decide))
    refine z_iload_n hJ d_Mo_set_32 2 rfl ?_
    refine z_iconst (v := 4) hJ d_Mo_set_33 (by decide) ?_
    refine z_icmp_ne hJ d_Mo_set_34 (fun c => absurd c (by decide)) (fun _ => ?_)
    refine z_iload_n hJ d_Mo_set_37 3 rfl ?_
    refine z_iconst (v := 0) hJ d_Mo_set_38 (by decide) ?_
    refine z_iconst (v := 1) hJ d_Mo_set_39 (by decide) ?_
    refine z_callSi hJ m_Mo_in k_Mo_52 zL.nil d_Mo_set_40 rfl rfl (Nat.le_of_ble_eq_true rfl) ⟨by decide, by decide⟩ ?_
    refine zb_eq hJ d_Mo_set_43 (fun c_43 => ?_) (fun c_43 => ?_)
    · skip
      try dsimp only at c_43
      refine z_iconst (v := 0) hJ d_Mo_set_50 (by decide) ?_
      refine z_istore (lv' := [(0, _), (1, _), (2, _), (3, _), (4, _)]) hJ d_Mo_set_51 (by decide) rfl ?_
      refine z_aload_n hJ d_Mo_set_53 0 rfl ?_
      refine z_iload_n hJ d_Mo_set_54 1 rfl ?_
      refine z_callVi hJ (m_Mo_isOne (M := (x0, x1, 127, x3, x4, x5, x6, x7, x8, x9, x10, x11, x12, x13, x14, x15, x16, x17, x18, x19, x20)) hR0) k_Mo_96 zL_mv d_Mo_set_55 hc_Mo 0 rfl rfl rfl (Nat.le_of_ble_eq_true rfl) ⟨by decide, by decide⟩ ?_
      refine zb_eq hJ d_Mo_set_58 (fun c_58 => ?_) (fun c_58 => ?_)
      · skip
        try dsimp only at c_58
        refine z_aload_n hJ d_Mo_set_66 0 rfl ?_
        refine z_ldc hJ d_Mo_set_67 c_Mo_51 ?_
        refine z_callVi hJ m_Mo_finds_0 k_Mo_67 zL_mv d_Mo_set_69 hc_Mo 0 rfl rfl rfl (Nat.le_of_ble_eq_true rfl) ⟨by decide, by decide⟩ ?_
        exact z_ri hR d_Mo_set_72 (by simp [p_set, q_may, c_43, c_58]; try rfl) (by simp [p_set, q_may, c_43, c_58]; try rfl)
      · skip
        try dsimp only at c_58
        obtain ⟨j, hj, rfl⟩ : ∃ j, j < P.2.1 ∧ i = nI j := by
          rcases q_ix_or i (n := P.2.1) (Nat.le_trans hP.1 (by decide)) with h | h
          · exact h
          · rw [h] at c_58; exact absurd c_58 (by decide)
        have hcl : (nI j).toNatClampNeg = j := nI_clamp (by have := hP.1; omega)
        refine z_iload hJ d_Mo_set_61 4 rfl ?_
        refine z_if_ne hJ d_Mo_set_63 (fun c => absurd c (by decide)) (fun _ => ?_)
        refine z_aload_n hJ d_Mo_set_66 0 rfl ?_
        refine z_ldc hJ d_Mo_set_67 c_Mo_51 ?_
        refine z_callVi hJ m_Mo_finds_0 k_Mo_67 zL_mv d_Mo_set_69 hc_Mo 0 rfl rfl rfl (Nat.le_of_ble_eq_true rfl) ⟨by decide, by decide⟩ ?_
        exact z_ri hR d_Mo_set_72 (by simp [p_set, q_may, hcl, c_43, c_58]; try rfl) (by simp [p_set, q_may, hcl, show (4 : Int32).toNatClampNeg = 4 from rfl, c_43, c_58]; try rfl)
    · skip
      try dsimp only at c_43
      refine z_iconst (v := 1) hJ d_Mo_set_46 (by decide) ?_
      refine z_goto hJ d_Mo_set_47 ?_
      refine z_istore (lv' := [(0, _), (1, _), (2, _), (3, _), (4, _)]) hJ d_Mo_set_51 (by decide) rfl ?_
      refine z_aload_n hJ d_Mo_set_53 0 rfl ?_
      refine z_iload_n hJ d_Mo_set_54 1 rfl ?_
      refine z_callVi hJ (m_Mo_isOne (M := (x0, x1, 127, x3, x4, x5, x6, x7, x8, x9, x10, x11, x12, x13, x14, x15, x16, x17, x18, x19, x20)) hR0) k_Mo_96 zL_mv d_Mo_set_55 hc_Mo 0 rfl rfl rfl (Nat.le_of_ble_eq_true rfl) ⟨by decide, by decide⟩ ?_
      refine zb_eq hJ d_Mo_set_58 (fun c_58 => ?_) (fun c_58 => ?_)
      · skip
        try dsimp only at c_58
        refine z_aload_n hJ d_Mo_set_66 0 rfl ?_
        refine z_ldc hJ d_Mo_set_67 c_Mo_51 ?_
        refine z_callVi hJ m_Mo_finds_0 k_Mo_67 zL_mv d_Mo_set_69 hc_Mo 0 rfl rfl rfl (Nat.le_of_ble_eq_true rfl) ⟨by decide, by decide⟩ ?_
        exact z_ri hR d_Mo_set_72 (by simp [p_set, q_may, c_43, c_58]; try rfl) (by simp [p_set, q_may, c_43, c_58]; try rfl)
      · skip
        try dsimp only at c_58
        obtain ⟨j, hj, rfl⟩ : ∃ j, j < P.2.1 ∧ i = nI j := by
          rcases q_ix_or i (n := P.2.1) (Nat.le_trans hP.1 (by decide)) with h | h
          · exact h
          · rw [h] at c_58; exact absurd c_58 (by decide)
        have hcl : (nI j).toNatClampNeg = j := nI_clamp (by have := hP.1; omega)
        refine z_iload hJ d_Mo_set_61 4 rfl ?_
        refine z_if_ne hJ d_Mo_set_63 (fun _ => ?_) (fun c => absurd c (by decide))
        refine z_aload_n hJ d_Mo_set_73 0 rfl ?_
        refine z_iload_n hJ d_Mo_set_74 1 rfl ?_
        refine z_iload_n hJ d_Mo_set_75 2 rfl ?_
        refine z_callVi hJ (m_Mo_its4 (M := (x0, x1, 127, x3, x4, x5, x6, x7, x8, x9, x10, x11, x12, x13, x14, x15, x16, x17, x18, x19, x20)) hR0 (by omega)) k_Mo_76 zL_mv d_Mo_set_76 hc_Mo 0 rfl rfl rfl (Nat.le_of_ble_eq_true rfl) ⟨by decide, by decide⟩ ?_
        refine z_istore (lv' := [(0, _), (1, _), (2, _), (3, _), (4, _), (5, _)]) hJ d_Mo_set_79 (by decide) rfl ?_
        refine z_aload_n hJ d_Mo_set_81 0 rfl ?_
        refine z_iload_n hJ d_Mo_set_82 1 rfl ?_
        refine z_iload_n hJ d_Mo_set_83 2 rfl ?_
        refine z_iload_n hJ d_Mo_set_84 3 rfl ?_
        refine z_callVv hJ (m_Mo_puts (M := (x0, x1, 127, x3, x4, x5, x6, x7, x8, x9, x10, x11, x12, x13, x14, x15, x16, x17, x18, x19, x20)) (p := j) (w := 4) (by omega) (by decide)) k_Mo_56 zL_mv d_Mo_set_85 hc_Mo 0 rfl rfl rfl (Nat.le_of_ble_eq_true rfl) ⟨by decide, by decide⟩ ?_
        refine z_iload hJ d_Mo_set_88 5 rfl ?_
        exact z_ri hR d_Mo_set_90 (by simp [p_set, q_may, hcl, c_43, c_58]; try rfl) (by simp [p_set, q_may, hcl, show (4 : Int32).toNatClampNeg = 4 from rfl, c_43, c_58]; try rfl)
  · skip
    refine z_iload_n hJ d_Mo_set_0 2 rfl ?_
    refine z_iconst (v := 1) hJ d_Mo_set_1 (by decide) ?_
    refine z_icmp_eq hJ d_Mo_set_2 (fun c_2 => False.elim (by exact absurd c_2 hw.1)) (fun c_2 => ?_)
    refine z_iload_n hJ d_Mo_set_5 2 rfl ?_
    refine z_iconst (v := 2) hJ d_Mo_set_6 (by decide) ?_
    refine z_icmp_ne hJ d_Mo_set_7 (fun c_7 => ?_) (fun c_7 => False.elim (by exact absurd c_7 hw.2.1))
    refine z_iload_n hJ d_Mo_set_17 2 rfl ?_
    refine z_iconst (v := 3) hJ d_Mo_set_18 (by decide) ?_
    refine z_icmp_ne hJ d_Mo_set_19 (fun c_19 => ?_) (fun c_19 => False.elim (by exact absurd c_19 hw.2.2.1))
    refine z_iload_n hJ d_Mo_set_32 2 rfl ?_
    refine z_iconst (v := 4) hJ d_Mo_set_33 (by decide) ?_
    refine z_icmp_ne hJ d_Mo_set_34 (fun c_34 => ?_) (fun c_34 => False.elim (by exact absurd c_34 hw.2.2.2))
    refine z_iconst (v := 0) hJ d_Mo_set_50 (by decide) ?_
    refine z_istore (lv' := [(0, _), (1, _), (2, _), (3, _), (4, _)]) hJ d_Mo_set_51 (by decide) rfl ?_
    refine z_aload_n hJ d_Mo_set_53 0 rfl ?_
    refine z_iload_n hJ d_Mo_set_54 1 rfl ?_
    refine z_callVi hJ (m_Mo_isOne (M := (x0, x1, 127, x3, x4, x5, x6, x7, x8, x9, x10, x11, x12, x13, x14, x15, x16, x17, x18, x19, x20)) hR0) k_Mo_96 zL_mv d_Mo_set_55 hc_Mo 0 rfl rfl rfl (Nat.le_of_ble_eq_true rfl) ⟨by decide, by decide⟩ ?_
    refine zb_eq hJ d_Mo_set_58 (fun c_58 => ?_) (fun c_58 => ?_)
    · skip
      try dsimp only at c_58
      refine z_aload_n hJ d_Mo_set_66 0 rfl ?_
      refine z_ldc hJ d_Mo_set_67 c_Mo_51 ?_
      refine z_callVi hJ m_Mo_finds_0 k_Mo_67 zL_mv d_Mo_set_69 hc_Mo 0 rfl rfl rfl (Nat.le_of_ble_eq_true rfl) ⟨by decide, by decide⟩ ?_
      exact z_ri hR d_Mo_set_72 (by simp [p_set, q_may, hw]; try rfl) (by simp [p_set, q_may, hw])
    · skip
      try dsimp only at c_58
      obtain ⟨j, hj, rfl⟩ : ∃ j, j < P.2.1 ∧ i = nI j := by
        rcases q_ix_or i (n := P.2.1) (Nat.le_trans hP.1 (by decide)) with h | h
        · exact h
        · rw [h] at c_58; exact absurd c_58 (by decide)
      have hcl : (nI j).toNatClampNeg = j := nI_clamp (by have := hP.1; omega)
      refine z_iload hJ d_Mo_set_61 4 rfl ?_
      refine z_if_ne hJ d_Mo_set_63 (fun c => absurd c (by decide)) (fun _ => ?_)
      refine z_aload_n hJ d_Mo_set_66 0 rfl ?_
      refine z_ldc hJ d_Mo_set_67 c_Mo_51 ?_
      refine z_callVi hJ m_Mo_finds_0 k_Mo_67 zL_mv d_Mo_set_69 hc_Mo 0 rfl rfl rfl (Nat.le_of_ble_eq_true rfl) ⟨by decide, by decide⟩ ?_
      exact z_ri hR d_Mo_set_72 (by simp [p_set, q_may, hw]; try rfl) (by simp [p_set, q_may, hw])
