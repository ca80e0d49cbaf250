theorem q_min9 {s : Int32} (h : ∃ n, 1 ≤ n ∧ n ≤ 9 ∧ s = nI n) : (¬ (9 : Int32) ≤ s → s + 1 = q_min (s + 1) 9) ∧ ((9 : Int32) ≤ s → 9 = q_min (s + 1) 9) ∧ ∃ n, 1 ≤ n ∧ n ≤ 9 ∧ q_min (s + 1) 9 = nI n := by
  obtain ⟨n, h1, h9, rfl⟩ := h
  have k : ∀ n : Fin 9, (¬ (9 : Int32) ≤ nI (n.val + 1) → nI (n.val + 1) + 1 = q_min (nI (n.val + 1) + 1) 9) ∧ ((9 : Int32) ≤ nI (n.val + 1) → 9 = q_min (nI (n.val + 1) + 1) 9) ∧ q_min (nI (n.val + 1) + 1) 9 = nI (min (n.val + 2) 9) := by decide +kernel
  have q := k ⟨n - 1, by omega⟩
  have e : n - 1 + 1 = n := by omega
  simp only [e] at q
  exact ⟨q.1, q.2.1, min (n - 1 + 2) 9, by omega, by omega, q.2.2⟩
set_option maxRecDepth 100000 in
theorem m_Mo_learn {g : Nat → Nat → Nat} {a : Nat → Nat} {x0 : Nat → Int32} {x1 : Nat → Int32} {x3 : Nat → Int32} {x4 : Nat → Int32} {x5 : Nat → Int64} {x6 : Nat → Int32} {x7 : Nat} {x8 : Int32} {x9 : Nat} {x10 : Nat} {x11 : Int64} {x12 : Int32} {x13 : Bool} {x14 : Nat → Int32} {x15 : Nat → Int32} {x16 : Nat → Int64} {x17 : Nat → Int64} {x18 : Nat → Int32} {x19 : Nat → Int32} {x20 : Bool} {P : RS}  (hR0 : zRo P x0) (hP : zPi P) (hG : zRg P) : zM g y_Mo_learn b_Mo_learn 6 (some .int) 8 [.ref (a 0)] (mV g a x0 x1 127 x3 x4 x5 x6 x7 x8 x9 x10 x11 x12 x13 x14 x15 x16 x17 x18 x19 x20) [.int (p_learn x1 P).1] (mV g a x0 ((p_learn x1 P).2) 127 x3 x4 x5 x6 x7 x8 x9 x10 x11 x12 x13 x14 x15 x16 x17 x18 x19 x20) := by
  have hj7 := hP.1
  have hj8 := hP.2.1
  refine zMi (lv := [(0, .ref (a 0))]) (by decide) (Nat.le_of_ble_eq_true rfl) rfl (fun J hJ hR => ?_)
  refine z_iconst (v := (-1)) hJ d_Mo_learn_0 (by decide) ?_
  refine z_istore_n (lv' := [(0, _), (1, _)]) hJ d_Mo_learn_1 (by decide) rfl ?_
  refine z_aload_n hJ d_Mo_learn_2 0 rfl ?_
  refine z_callVi hJ (m_Mo_earned7 (P := P) (M := (x0, x1, 127, x3, x4, x5, x6, x7, x8, x9, x10, x11, x12, x13, x14, x15, x16, x17, x18, x19, x20)) hR0 hP hG rfl) k_Mo_135 zL_mv d_Mo_learn_3 hc_Mo 0 rfl rfl rfl (Nat.le_of_ble_eq_true rfl) ⟨by decide, by decide⟩ ?_
  refine z_istore_n (lv' := [(0, _), (1, _), (2, _)]) hJ d_Mo_learn_6 (by decide) rfl ?_
  refine z_iconst (v := 0) hJ d_Mo_learn_7 (by decide) ?_
  refine z_istore_n (lv' := [(0, _), (1, _), (2, _), (3, _)]) hJ d_Mo_learn_8 (by decide) rfl ?_
  have L9 : ∀ j : Nat, j ≤ P.2.1 → ∀ F : Nat → Int32, F = x0 → J (mV g a F x1 127 x3 x4 x5 x6 x7 x8 x9 x10 x11 x12 x13 x14 x15 x16 x17 x18 x19 x20) 9 [(0, .ref (a 0)), (1, .int (q_ln P j).1), (2, .int (q_ln P j).2), (3, .int (nI j))] [] := by
    refine zloop (P.2.1) (fun j hjN ih => ?_)
    intro F hF
    refine z_iload_n hJ d_Mo_learn_9 3 rfl ?_
    refine z_aload_n hJ d_Mo_learn_10 0 rfl ?_
    refine z_get hJ d_Mo_learn_11 hc_Mo f_Mo_7 0 rfl rfl (by decide) ?_
    refine z_iconst (v := 1) hJ d_Mo_learn_14 (by decide) ?_
    refine z_iald hJ d_Mo_learn_15 1 (1) rfl rfl (by decide) (by decide) ?_
    refine z_c (y := nI P.2.1) (by rw [hF]; exact hR0.2.1) ?_
    refine z_icmp_ge hJ d_Mo_learn_16 (fun c_16 => ?_) (fun c_16 => ?_)
    · skip
      try dsimp only at c_16
      have h_16 : P.2.1 ≤ j := by
        have e := nI_leI (a := P.2.1) (b := j) (by omega) (by omega)
        exact e.mp c_16
      obtain rfl : j = P.2.1 := by omega
      refine z_iload_n hJ d_Mo_learn_94 1 rfl ?_
      refine z_if_ge hJ d_Mo_learn_95 (fun c_95 => ?_) (fun c_95 => ?_)
      · skip
        try dsimp only at c_95
        refine z_iload_n hJ d_Mo_learn_107 1 rfl ?_
        exact z_ri hR d_Mo_learn_108 (by simp [p_learn, c_16, c_95]) (by rw [hF]; simp [p_learn, c_16, c_95])
      · skip
        try dsimp only at c_95
        refine z_aload_n hJ d_Mo_learn_98 0 rfl ?_
        refine z_ldc hJ d_Mo_learn_99 c_Mo_159 ?_
        refine z_callVi hJ m_Mo_finds_3 k_Mo_67 zL_mv d_Mo_learn_101 hc_Mo 0 rfl rfl rfl (Nat.le_of_ble_eq_true rfl) ⟨by decide, by decide⟩ ?_
        refine z_goto hJ d_Mo_learn_104 ?_
        exact z_ri hR d_Mo_learn_108 (by simp [p_learn, c_16, c_95]) (by rw [hF]; simp [p_learn, c_16, c_95])
    · skip
      try dsimp only at c_16
      have h_16 : ¬ (P.2.1 ≤ j) := by
        have e := nI_leI (a := P.2.1) (b := j) (by omega) (by omega)
        exact fun q => c_16 (e.mpr q)
      have hm9 := q_min9 (hG.2.2.1 j (by omega)).2.2.2
      refine z_aload_n hJ d_Mo_learn_19 0 rfl ?_
      refine z_iload_n hJ d_Mo_learn_20 3 rfl ?_
      refine z_iconst (v := 3) hJ d_Mo_learn_21 (by decide) ?_
      refine z_callVi hJ (m_Mo_its3 (M := (F, x1, 127, x3, x4, x5, x6, x7, x8, x9, x10, x11, x12, x13, x14, x15, x16, x17, x18, x19, x20)) (by dsimp only; rw [hF]; exact hR0) (by omega)) k_Mo_76 zL_mv d_Mo_learn_22 hc_Mo 0 rfl rfl rfl (Nat.le_of_ble_eq_true rfl) ⟨by decide, by decide⟩ ?_
      refine z_istore (lv' := [(0, _), (1, _), (2, _), (3, _), (4, _)]) hJ d_Mo_learn_25 (by decide) rfl ?_
      refine z_aload_n hJ d_Mo_learn_27 0 rfl ?_
      refine z_iload_n hJ d_Mo_learn_28 3 rfl ?_
      refine z_iconst (v := 3) hJ d_Mo_learn_29 (by decide) ?_
      refine z_iload hJ d_Mo_learn_30 4 rfl ?_
      refine z_bipush (v := 9) hJ d_Mo_learn_32 (by decide) ?_
      refine z_icmp_ge hJ d_Mo_learn_34 (fun c_34 => ?_) (fun c_34 => ?_)
      · skip
        try dsimp only at c_34
        refine z_bipush (v := 9) hJ d_Mo_learn_44 (by decide) ?_
        refine z_c (y := (q_min (rs P j + 1) 9)) (hm9.2.1 c_34) ?_
        refine z_callVv hJ (m_Mo_puts (p := j) (w := 3) (by omega) (by decide)) k_Mo_56 zL_mv d_Mo_learn_46 hc_Mo 0 rfl rfl rfl (Nat.le_of_ble_eq_true rfl) ⟨by decide, by decide⟩ ?_
        refine z_aload_n hJ d_Mo_learn_49 0 rfl ?_
        refine z_callVi hJ (m_Mo_earned7 (P := q_setS P j (q_min (rs P j + 1) 9)) (M := (upd F (3 + 5 * j + 3) (q_min (rs P j + 1) 9), x1, 127, x3, x4, x5, x6, x7, x8, x9, x10, x11, x12, x13, x14, x15, x16, x17, x18, x19, x20)) (by dsimp only; rw [hF]; exact hR0.setS _ (by omega)) hP (hG.setS hm9.2.2) rfl) k_Mo_135 zL_mv d_Mo_learn_50 hc_Mo 0 rfl rfl rfl (Nat.le_of_ble_eq_true rfl) ⟨by decide, by decide⟩ ?_
        refine z_c (y := q_eS P j) rfl ?_
        refine z_istore (lv' := [(0, _), (1, _), (2, _), (3, _), (4, _), (5, _)]) hJ d_Mo_learn_53 (by decide) rfl ?_
        refine z_aload_n hJ d_Mo_learn_55 0 rfl ?_
        refine z_iload_n hJ d_Mo_learn_56 3 rfl ?_
        refine z_iconst (v := 3) hJ d_Mo_learn_57 (by decide) ?_
        refine z_iload hJ d_Mo_learn_58 4 rfl ?_
        refine z_callVv hJ (m_Mo_puts (p := j) (w := 3) (by omega) (by decide)) k_Mo_56 zL_mv d_Mo_learn_60 hc_Mo 0 rfl rfl rfl (Nat.le_of_ble_eq_true rfl) ⟨by decide, by decide⟩ ?_
        refine z_iload hJ d_Mo_learn_63 5 rfl ?_
        refine z_iload_n hJ d_Mo_learn_65 2 rfl ?_
        refine z_icmp_le hJ d_Mo_learn_66 (fun c_66 => ?_) (fun c_66 => ?_)
        · skip
          try dsimp only at c_66
          refine z_iload_n hJ d_Mo_learn_73 1 rfl ?_
          refine z_istore_n (lv' := [(0, _), (1, _), (2, _), (3, _), (4, _), (5, _)]) hJ d_Mo_learn_74 (by decide) rfl ?_
          refine z_iload hJ d_Mo_learn_75 5 rfl ?_
          refine z_iload_n hJ d_Mo_learn_77 2 rfl ?_
          refine z_icmp_le hJ d_Mo_learn_78 (fun c_78 => ?_) (fun c_78 => ?_)
          · skip
            try dsimp only at c_78
            refine z_iload_n hJ d_Mo_learn_86 2 rfl ?_
            refine z_istore_n (lv' := [(0, _), (1, _), (2, _), (3, _), (4, _), (5, _)]) hJ d_Mo_learn_87 (by decide) rfl ?_
            refine z_iinc (v := nI (j + 1)) (lv' := [(0, _), (1, _), (2, _), (3, _), (4, _), (5, _)]) hJ d_Mo_learn_88 3 rfl (zinc _) (by decide) rfl ?_
            refine z_goto hJ d_Mo_learn_91 ?_
            refine z_drop hJ [0, 1, 2, 3] rfl ?_
            have e := ih (by omega) (upd (upd F (3 + 5 * j + 3) (q_min (rs P j + 1) 9)) (3 + 5 * j + 3) (rs P j)) (by rw [hF]; exact upd_back x0 (hR0.2.2.2.1 j (by omega)).2.2.2.1)
            rw [q_ln_f c_66] at e
            exact e
          · skip
            try dsimp only at c_78
            refine z_iload hJ d_Mo_learn_81 5 rfl ?_
            refine z_goto hJ d_Mo_learn_83 ?_
            refine z_istore_n (lv' := [(0, _), (1, _), (2, _), (3, _), (4, _), (5, _)]) hJ d_Mo_learn_87 (by decide) rfl ?_
            refine z_iinc (v := nI (j + 1)) (lv' := [(0, _), (1, _), (2, _), (3, _), (4, _), (5, _)]) hJ d_Mo_learn_88 3 rfl (zinc _) (by decide) rfl ?_
            refine z_goto hJ d_Mo_learn_91 ?_
            refine z_drop hJ [0, 1, 2, 3] rfl ?_
            exact absurd c_66 c_78
        · skip
          try dsimp only at c_66
          refine z_iload_n hJ d_Mo_learn_69 3 rfl ?_
          refine z_goto hJ d_Mo_learn_70 ?_
          refine z_istore_n (lv' := [(0, _), (1, _), (2, _), (3, _), (4, _), (5, _)]) hJ d_Mo_learn_74 (by decide) rfl ?_
          refine z_iload hJ d_Mo_learn_75 5 rfl ?_
          refine z_iload_n hJ d_Mo_learn_77 2 rfl ?_
          refine z_icmp_le hJ d_Mo_learn_78 (fun c_78 => ?_) (fun c_78 => ?_)
          · skip
            try dsimp only at c_78
            refine z_iload_n hJ d_Mo_learn_86 2 rfl ?_
            refine z_istore_n (lv' := [(0, _), (1, _), (2, _), (3, _), (4, _), (5, _)]) hJ d_Mo_learn_87 (by decide) rfl ?_
            refine z_iinc (v := nI (j + 1)) (lv' := [(0, _), (1, _), (2, _), (3, _), (4, _), (5, _)]) hJ d_Mo_learn_88 3 rfl (zinc _) (by decide) rfl ?_
            refine z_goto hJ d_Mo_learn_91 ?_
            refine z_drop hJ [0, 1, 2, 3] rfl ?_
            exact absurd c_78 c_66
          · skip
            try dsimp only at c_78
            refine z_iload hJ d_Mo_learn_81 5 rfl ?_
            refine z_goto hJ d_Mo_learn_83 ?_
            refine z_istore_n (lv' := [(0, _), (1, _), (2, _), (3, _), (4, _), (5, _)]) hJ d_Mo_learn_87 (by decide) rfl ?_
            refine z_iinc (v := nI (j + 1)) (lv' := [(0, _), (1, _), (2, _), (3, _), (4, _), (5, _)]) hJ d_Mo_learn_88 3 rfl (zinc _) (by decide) rfl ?_
            refine z_goto hJ d_Mo_learn_91 ?_
            refine z_drop hJ [0, 1, 2, 3] rfl ?_
            have e := ih (by omega) (upd (upd F (3 + 5 * j + 3) (q_min (rs P j + 1) 9)) (3 + 5 * j + 3) (rs P j)) (by rw [hF]; exact upd_back x0 (hR0.2.2.2.1 j (by omega)).2.2.2.1)
            rw [q_ln_t c_66] at e
            exact e
      · skip
        try dsimp only at c_34
        refine z_iload hJ d_Mo_learn_37 4 rfl ?_
        refine z_iconst (v := 1) hJ d_Mo_learn_39 (by decide) ?_
        refine z_iadd hJ d_Mo_learn_40 ?_
        refine z_c (y := (q_min (rs P j + 1) 9)) (hm9.1 c_34) ?_
        refine z_goto hJ d_Mo_learn_41 ?_
        refine z_callVv hJ (m_Mo_puts (p := j) (w := 3) (by omega) (by decide)) k_Mo_56 zL_mv d_Mo_learn_46 hc_Mo 0 rfl rfl rfl (Nat.le_of_ble_eq_true rfl) ⟨by decide, by decide⟩ ?_
        refine z_aload_n hJ d_Mo_learn_49 0 rfl ?_
        refine z_callVi hJ (m_Mo_earned7 (P := q_setS P j (q_min (rs P j + 1) 9)) (M := (upd F (3 + 5 * j + 3) (q_min (rs P j + 1) 9), x1, 127, x3, x4, x5, x6, x7, x8, x9, x10, x11, x12, x13, x14, x15, x16, x17, x18, x19, x20)) (by dsimp only; rw [hF]; exact hR0.setS _ (by omega)) hP (hG.setS hm9.2.2) rfl) k_Mo_135 zL_mv d_Mo_learn_50 hc_Mo 0 rfl rfl rfl (Nat.le_of_ble_eq_true rfl) ⟨by decide, by decide⟩ ?_
        refine z_c (y := q_eS P j) rfl ?_
        refine z_istore (lv' := [(0, _), (1, _), (2, _), (3, _), (4, _), (5, _)]) hJ d_Mo_learn_53 (by decide) rfl ?_
        refine z_aload_n hJ d_Mo_learn_55 0 rfl ?_
        refine z_iload_n hJ d_Mo_learn_56 3 rfl ?_
        refine z_iconst (v := 3) hJ d_Mo_learn_57 (by decide) ?_
        refine z_iload hJ d_Mo_learn_58 4 rfl ?_
        refine z_callVv hJ (m_Mo_puts (p := j) (w := 3) (by omega) (by decide)) k_Mo_56 zL_mv d_Mo_learn_60 hc_Mo 0 rfl rfl rfl (Nat.le_of_ble_eq_true rfl) ⟨by decide, by decide⟩ ?_
        refine z_iload hJ d_Mo_learn_63 5 rfl ?_
        refine z_iload_n hJ d_Mo_learn_65 2 rfl ?_
        refine z_icmp_le hJ d_Mo_learn_66 (fun c_66 => ?_) (fun c_66 => ?_)
        · skip
          try dsimp only at c_66
          refine z_iload_n hJ d_Mo_learn_73 1 rfl ?_
          refine z_istore_n (lv' := [(0, _), (1, _), (2, _), (3, _), (4, _), (5, _)]) hJ d_Mo_learn_74 (by decide) rfl ?_
          refine z_iload hJ d_Mo_learn_75 5 rfl ?_
          refine z_iload_n hJ d_Mo_learn_77 2 rfl ?_
          refine z_icmp_le hJ d_Mo_learn_78 (fun c_78 => ?_) (fun c_78 => ?_)
          · skip
            try dsimp only at c_78
            refine z_iload_n hJ d_Mo_learn_86 2 rfl ?_
            refine z_istore_n (lv' := [(0, _), (1, _), (2, _), (3, _), (4, _), (5, _)]) hJ d_Mo_learn_87 (by decide) rfl ?_
            refine z_iinc (v := nI (j + 1)) (lv' := [(0, _), (1, _), (2, _), (3, _), (4, _), (5, _)]) hJ d_Mo_learn_88 3 rfl (zinc _) (by decide) rfl ?_
            refine z_goto hJ d_Mo_learn_91 ?_
            refine z_drop hJ [0, 1, 2, 3] rfl ?_
            have e := ih (by omega) (upd (upd F (3 + 5 * j + 3) (q_min (rs P j + 1) 9)) (3 + 5 * j + 3) (rs P j)) (by rw [hF]; exact upd_back x0 (hR0.2.2.2.1 j (by omega)).2.2.2.1)
            rw [q_ln_f c_66] at e
            exact e
          · skip
            try dsimp only at c_78
            refine z_iload hJ d_Mo_learn_81 5 rfl ?_
            refine z_goto hJ d_Mo_learn_83 ?_
            refine z_istore_n (lv' := [(0, _), (1, _), (2, _), (3, _), (4, _), (5, _)]) hJ d_Mo_learn_87 (by decide) rfl ?_
            refine z_iinc (v := nI (j + 1)) (lv' := [(0, _), (1, _), (2, _), (3, _), (4, _), (5, _)]) hJ d_Mo_learn_88 3 rfl (zinc _) (by decide) rfl ?_
            refine z_goto hJ d_Mo_learn_91 ?_
            refine z_drop hJ [0, 1, 2, 3] rfl ?_
            exact absurd c_66 c_78
        · skip
          try dsimp only at c_66
          refine z_iload_n hJ d_Mo_learn_69 3 rfl ?_
          refine z_goto hJ d_Mo_learn_70 ?_
          refine z_istore_n (lv' := [(0, _), (1, _), (2, _), (3, _), (4, _), (5, _)]) hJ d_Mo_learn_74 (by decide) rfl ?_
          refine z_iload hJ d_Mo_learn_75 5 rfl ?_
          refine z_iload_n hJ d_Mo_learn_77 2 rfl ?_
          refine z_icmp_le hJ d_Mo_learn_78 (fun c_78 => ?_) (fun c_78 => ?_)
          · skip
            try dsimp only at c_78
            refine z_iload_n hJ d_Mo_learn_86 2 rfl ?_
            refine z_istore_n (lv' := [(0, _), (1, _), (2, _), (3, _), (4, _), (5, _)]) hJ d_Mo_learn_87 (by decide) rfl ?_
            refine z_iinc (v := nI (j + 1)) (lv' := [(0, _), (1, _), (2, _), (3, _), (4, _), (5, _)]) hJ d_Mo_learn_88 3 rfl (zinc _) (by decide) rfl ?_
            refine z_goto hJ d_Mo_learn_91 ?_
            refine z_drop hJ [0, 1, 2, 3] rfl ?_
            exact absurd c_78 c_66
          · skip
            try dsimp only at c_78
            refine z_iload hJ d_Mo_learn_81 5 rfl ?_
            refine z_goto hJ d_Mo_learn_83 ?_
            refine z_istore_n (lv' := [(0, _), (1, _), (2, _), (3, _), (4, _), (5, _)]) hJ d_Mo_learn_87 (by decide) rfl ?_
            refine z_iinc (v := nI (j + 1)) (lv' := [(0, _), (1, _), (2, _), (3, _), (4, _), (5, _)]) hJ d_Mo_learn_88 3 rfl (zinc _) (by decide) rfl ?_
            refine z_goto hJ d_Mo_learn_91 ?_
            refine z_drop hJ [0, 1, 2, 3] rfl ?_
            have e := ih (by omega) (upd (upd F (3 + 5 * j + 3) (q_min (rs P j + 1) 9)) (3 + 5 * j + 3) (rs P j)) (by rw [hF]; exact upd_back x0 (hR0.2.2.2.1 j (by omega)).2.2.2.1)
            rw [q_ln_t c_66] at e
            exact e
  exact L9 0 (Nat.zero_le _) _ rfl
