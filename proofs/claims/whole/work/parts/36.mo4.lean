theorem p_of_c (f : xF) {P : RS} {r : Nat → Int32} (h : zRo P r) {j c : Nat} (hj : j < P.2.1) (h7 : P.2.1 ≤ 7) (hc : c < 5) : (p_of f P (nI j) (nI c)).1 = r (3 + 5 * j + c) ∧ (p_of f P (nI j) (nI c)).2 = f := by
  have hq := q_ix_t hj (n := P.2.1) (by omega)
  have hcl : (nI j).toNatClampNeg = j := nI_clamp (by omega)
  obtain ⟨e0, e1, e2, e3, e4⟩ := h.2.2.2.1 j (by omega)
  unfold p_of
  rw [if_pos hq, hcl]
  obtain rfl | rfl | rfl | rfl | rfl : c = 0 ∨ c = 1 ∨ c = 2 ∨ c = 3 ∨ c = 4 := by omega
  · rw [if_pos (show nI 0 = 0 from rfl)]; exact ⟨e0.symm, rfl⟩
  · rw [if_neg (show ¬ nI 1 = 0 by decide), if_pos (show nI 1 = 1 from rfl)]; exact ⟨e1.symm, rfl⟩
  · rw [if_neg (show ¬ nI 2 = 0 by decide), if_neg (show ¬ nI 2 = 1 by decide), if_pos (show nI 2 = 2 from rfl)]; exact ⟨e2.symm, rfl⟩
  · rw [if_neg (show ¬ nI 3 = 0 by decide), if_neg (show ¬ nI 3 = 1 by decide), if_neg (show ¬ nI 3 = 2 by decide), if_pos (show nI 3 = 3 from rfl)]; exact ⟨e3.symm, rfl⟩
  · rw [if_neg (show ¬ nI 4 = 0 by decide), if_neg (show ¬ nI 4 = 1 by decide), if_neg (show ¬ nI 4 = 2 by decide), if_neg (show ¬ nI 4 = 3 by decide), if_pos (show nI 4 = 4 from rfl)]; exact ⟨e4.symm, rfl⟩
theorem p_taskOf_c (f : xF) {P : RS} {r : Nat → Int32} (h : zRo P r) {j c : Nat} (hj : j < P.2.2.1) (h7 : P.2.2.1 ≤ 8) (hc : c < 4) : (p_taskOf f P (nI j) (nI c)).1 = r (38 + 4 * j + c) ∧ (p_taskOf f P (nI j) (nI c)).2 = f := by
  have hq := q_ix_t hj (n := P.2.2.1) (by omega)
  have hcl : (nI j).toNatClampNeg = j := nI_clamp (by omega)
  obtain ⟨e0, e1, e2, e3⟩ := h.2.2.2.2 j (by omega)
  unfold p_taskOf
  rw [if_pos hq, hcl]
  obtain rfl | rfl | rfl | rfl : c = 0 ∨ c = 1 ∨ c = 2 ∨ c = 3 := by omega
  · rw [if_pos (show nI 0 = 0 from rfl)]; exact ⟨e0.symm, rfl⟩
  · rw [if_neg (show ¬ nI 1 = 0 by decide), if_pos (show nI 1 = 1 from rfl)]; exact ⟨e1.symm, rfl⟩
  · rw [if_neg (show ¬ nI 2 = 0 by decide), if_neg (show ¬ nI 2 = 1 by decide), if_pos (show nI 2 = 2 from rfl)]; exact ⟨e2.symm, rfl⟩
  · rw [if_neg (show ¬ nI 3 = 0 by decide), if_neg (show ¬ nI 3 = 1 by decide), if_neg (show ¬ nI 3 = 2 by decide), if_pos (show nI 3 = 3 from rfl)]; exact ⟨e3.symm, rfl⟩
theorem q_pace_0 (k : Int32) : ¬ q_pace k = 0 := by
  rcases q_pace3 k with e | e | e <;> rw [e] <;> decide
theorem q_htg_m {P : RS} (hG : zRg P) {j : Nat} (hj : j < P.2.1) : (q_size (rm P j - rg P j) + q_pace (rk P j) - 1) / q_pace (rk P j) = q_htg P j := by
  obtain ⟨x, hx, ex⟩ := (hG.2.2.1 j hj).2.1
  obtain ⟨y, hy, ey⟩ := (hG.2.2.1 j hj).2.2.1
  unfold q_htg
  rw [ex, ey, q_size_sym hx hy, show q_max 1 (q_pace (rk P j)) = q_pace (rk P j) by rcases q_pace3 (rk P j) with e | e | e <;> rw [e] <;> decide]
theorem p_of_no (f : xF) (P : RS) (i w : Int32) (h : q_in w 0 7 = false) : p_of f P i w = (-1000000001, q_tel f 0) := by
  have n : ∀ k : Int32, q_in k 0 7 = true → ¬ w = k := fun k hk e => by rw [e, hk] at h; exact absurd h (by decide)
  unfold p_of
  rw [if_neg (n 0 (by decide)), if_neg (n 1 (by decide)), if_neg (n 2 (by decide)), if_neg (n 3 (by decide)), if_neg (n 4 (by decide)), if_neg (n 5 (by decide)), if_neg (n 6 (by decide)), if_neg (n 7 (by decide)), ite_self]
theorem p_taskOf_no (f : xF) (P : RS) (i w : Int32) (h : q_in w 0 6 = false) : p_taskOf f P i w = (-1000000001, q_tel f 0) := by
  have n : ∀ k : Int32, q_in k 0 6 = true → ¬ w = k := fun k hk e => by rw [e, hk] at h; exact absurd h (by decide)
  unfold p_taskOf
  rw [if_neg (n 0 (by decide)), if_neg (n 1 (by decide)), if_neg (n 2 (by decide)), if_neg (n 3 (by decide)), if_neg (n 4 (by decide)), if_neg (n 5 (by decide)), if_neg (n 6 (by decide)), ite_self]
set_option maxRecDepth 100000 in
theorem m_Mo_image {g : Nat → Nat → Nat} {a : Nat → Nat} {x0 : Nat → Int32} {x1 : Nat → Int32} {x3 : Nat → Int32} {x4 : Nat → Int32} {x5 : Nat → Int64} {x6 : Nat → Int32} {x7 : Nat} {x8 : Int32} {x9 : Nat} {x10 : Nat} {x11 : Int64} {x12 : Int32} {x13 : Bool} {x14 : Nat → Int32} {x15 : Nat → Int32} {x16 : Nat → Int64} {x17 : Nat → Int64} {x18 : Nat → Int32} {x19 : Nat → Int32} {x20 : Bool} {P : RS}  (hR0 : zRo P x0) (hP : zPi P) (hG : zRg P) : zM g y_Mo_image b_Mo_image 1 (some .int) 1 [.ref (a 0)] (mV g a x0 x1 127 x3 x4 x5 x6 x7 x8 x9 x10 x11 x12 x13 x14 x15 x16 x17 x18 x19 x20) [.int 1] (mV g a x0 x1 127 x3 x4 x5 x6 x7 x8 x9 x10 x11 x12 x13 x14 x15 x16 x17 x0 x19 true) := by
  refine zMi (lv := [(0, .ref (a 0))]) (by decide) (Nat.le_of_ble_eq_true rfl) rfl (fun J hJ hR => ?_)
  refine z_aload_n hJ d_Mo_image_0 0 rfl ?_
  refine z_iconst (v := 1) hJ d_Mo_image_1 (by decide) ?_
  refine z_aload_n hJ d_Mo_image_2 0 rfl ?_
  refine z_get hJ d_Mo_image_3 hc_Mo f_Mo_45 0 rfl rfl (by decide) ?_
  refine z_callVv hJ m_Mo_moveAll_image_k k_Mo_155 zL.id d_Mo_image_6 hc_Mo 0 rfl rfl rfl (Nat.le_of_ble_eq_true rfl) ⟨by decide, by decide⟩ ?_
  refine z_aload_n hJ d_Mo_image_9 0 rfl ?_
  refine z_iconst (v := 1) hJ d_Mo_image_10 (by decide) ?_
  refine z_put (w' := mV g a x0 x1 127 x3 x4 x5 x6 x7 x8 x9 x10 x11 x12 x13 x14 x15 x16 x17 x0 x19 true) hJ d_Mo_image_11 hc_Mo f_Mo_322 0 rfl rfl rfl rfl (by decide) (Nat.le_of_ble_eq_true rfl) rfl ?_
  refine z_iconst (v := 1) hJ d_Mo_image_14 (by decide) ?_
  exact z_ri hR d_Mo_image_15 rfl rfl
set_option maxRecDepth 100000 in
theorem m_Mo_of {g : Nat → Nat → Nat} {a : Nat → Nat} {x0 : Nat → Int32} {x1 : Nat → Int32} {x3 : Nat → Int32} {x4 : Nat → Int32} {x5 : Nat → Int64} {x6 : Nat → Int32} {x7 : Nat} {x8 : Int32} {x9 : Nat} {x10 : Nat} {x11 : Int64} {x12 : Int32} {x13 : Bool} {x14 : Nat → Int32} {x15 : Nat → Int32} {x16 : Nat → Int64} {x17 : Nat → Int64} {x18 : Nat → Int32} {x19 : Nat → Int32} {x20 : Bool} {P : RS} {i w : Int32} (hR0 : zRo P x0) (hP : zPi P) (hG : zRg P) : zM g y_Mo_of b_Mo_of 3 (some .int) 4 [.ref (a 0), .int i, .int w] (mV g a x0 x1 127 x3 x4 x5 x6 x7 x8 x9 x10 x11 x12 x13 x14 x15 x16 x17 x18 x19 x20) [.int (p_of x1 P i w).1] (mV g a x0 ((p_of x1 P i w).2) 127 x3 x4 x5 x6 x7 x8 x9 x10 x11 x12 x13 x14 x15 x16 x17 x18 x19 x20) := by
  refine zMi (lv := [(0, .ref (a 0)), (1, .int i), (2, .int w)]) (by decide) (Nat.le_of_ble_eq_true rfl) rfl (fun J hJ hR => ?_)
  rcases q_ix_or i (n := P.2.1) (by first | exact Nat.le_trans hP.1 (by decide) | exact hP.2.1) with ⟨j, hj, rfl⟩ | hq
  · have hj7 := hP.1
    have hj8 := hP.2.1
    have hq := q_ix_t hj (n := P.2.1) (by omega)
    have hcl : (nI j).toNatClampNeg = j := nI_clamp (by omega)
    refine z_aload_n hJ d_Mo_of_0 0 rfl ?_
    refine z_iload_n hJ d_Mo_of_1 1 rfl ?_
    refine z_callVi hJ (m_Mo_isOne (M := (x0, x1, 127, x3, x4, x5, x6, x7, x8, x9, x10, x11, x12, x13, x14, x15, x16, x17, x18, x19, x20)) hR0) k_Mo_96 zL_mv d_Mo_of_2 hc_Mo 0 rfl rfl rfl (Nat.le_of_ble_eq_true rfl) ⟨by decide, by decide⟩ ?_
    refine zb_eq hJ d_Mo_of_5 (fun c_5 => False.elim (by rw [hq] at c_5; exact absurd c_5 (by decide))) (fun c_5 => ?_)
    refine z_iload_n hJ d_Mo_of_8 2 rfl ?_
    refine z_iconst (v := 0) hJ d_Mo_of_9 (by decide) ?_
    refine z_bipush (v := 7) hJ d_Mo_of_10 (by decide) ?_
    refine z_callSi hJ m_Mo_in k_Mo_52 zL.nil d_Mo_of_12 rfl rfl (Nat.le_of_ble_eq_true rfl) ⟨by decide, by decide⟩ ?_
    refine zb_ne hJ d_Mo_of_15 (fun c_15 => ?_) (fun c_15 => ?_)
    · skip
      try dsimp only at c_15
      refine z_iload_n hJ d_Mo_of_25 2 rfl ?_
      refine z_sw (tgt := 103) [(5, 52), (6, 66), (7, 72)] hJ d_Mo_of_26 (by decide) (by decide) ?_ (fun c_26 => ?_)
      · intro q hq e
        simp only [List.mem_cons, List.not_mem_nil, or_false] at hq
        rcases hq with rfl | rfl | rfl
        · have c_26 := e.trans (show Int32.ofInt 5 = 5 by decide)
          refine z_aload_n hJ d_Mo_of_52 0 rfl ?_
          refine z_iload_n hJ d_Mo_of_53 1 rfl ?_
          refine z_callVi hJ (m_Mo_isSpoilt7 (M := (x0, x1, 127, x3, x4, x5, x6, x7, x8, x9, x10, x11, x12, x13, x14, x15, x16, x17, x18, x19, x20)) hR0 hP hG rfl (by omega)) k_Mo_99 zL_mv d_Mo_of_54 hc_Mo 0 rfl rfl rfl (Nat.le_of_ble_eq_true rfl) ⟨by decide, by decide⟩ ?_
          refine zb_eq hJ d_Mo_of_57 (fun c_57 => ?_) (fun c_57 => ?_)
          · skip
            try dsimp only at c_57
            refine z_iconst (v := 0) hJ d_Mo_of_64 (by decide) ?_
            exact z_ri hR d_Mo_of_65 (by simp [p_of, hq, hcl, c_5, c_15, c_26, c_57]; try rfl) (by simp [p_of, hq, hcl, c_5, c_15, c_26, c_57])
          · skip
            try dsimp only at c_57
            refine z_iconst (v := 1) hJ d_Mo_of_60 (by decide) ?_
            refine z_goto hJ d_Mo_of_61 ?_
            exact z_ri hR d_Mo_of_65 (by simp [p_of, hq, hcl, c_5, c_15, c_26, c_57]; try rfl) (by simp [p_of, hq, hcl, c_5, c_15, c_26, c_57])
        · have c_26 := e.trans (show Int32.ofInt 6 = 6 by decide)
          refine z_aload_n hJ d_Mo_of_66 0 rfl ?_
          refine z_iload_n hJ d_Mo_of_67 1 rfl ?_
          refine z_callVi hJ (m_Mo_paceOf (M := (x0, x1, 127, x3, x4, x5, x6, x7, x8, x9, x10, x11, x12, x13, x14, x15, x16, x17, x18, x19, x20)) hR0 (by omega)) k_Mo_102 zL_mv d_Mo_of_68 hc_Mo 0 rfl rfl rfl (Nat.le_of_ble_eq_true rfl) ⟨by decide, by decide⟩ ?_
          exact z_ri hR d_Mo_of_71 (by simp [p_of, hq, hcl, c_5, c_15, c_26]; try rfl) (by simp [p_of, hq, hcl, c_5, c_15, c_26])
        · have c_26 := e.trans (show Int32.ofInt 7 = 7 by decide)
          refine z_aload_n hJ d_Mo_of_72 0 rfl ?_
          refine z_iload_n hJ d_Mo_of_73 1 rfl ?_
          refine z_iconst (v := 1) hJ d_Mo_of_74 (by decide) ?_
          refine z_callVi hJ (m_Mo_its1 (M := (x0, x1, 127, x3, x4, x5, x6, x7, x8, x9, x10, x11, x12, x13, x14, x15, x16, x17, x18, x19, x20)) hR0 (by omega)) k_Mo_76 zL_mv d_Mo_of_75 hc_Mo 0 rfl rfl rfl (Nat.le_of_ble_eq_true rfl) ⟨by decide, by decide⟩ ?_
          refine z_aload_n hJ d_Mo_of_78 0 rfl ?_
          refine z_iload_n hJ d_Mo_of_79 1 rfl ?_
          refine z_iconst (v := 2) hJ d_Mo_of_80 (by decide) ?_
          refine z_callVi hJ (m_Mo_its2 (M := (x0, x1, 127, x3, x4, x5, x6, x7, x8, x9, x10, x11, x12, x13, x14, x15, x16, x17, x18, x19, x20)) hR0 (by omega)) k_Mo_76 zL_mv d_Mo_of_81 hc_Mo 0 rfl rfl rfl (Nat.le_of_ble_eq_true rfl) ⟨by decide, by decide⟩ ?_
          refine z_isub hJ d_Mo_of_84 ?_
          refine z_callSi hJ m_Mo_size k_Mo_90 zL.nil d_Mo_of_85 rfl rfl (Nat.le_of_ble_eq_true rfl) ⟨by decide, by decide⟩ ?_
          refine z_aload_n hJ d_Mo_of_88 0 rfl ?_
          refine z_iload_n hJ d_Mo_of_89 1 rfl ?_
          refine z_callVi hJ (m_Mo_paceOf (M := (x0, x1, 127, x3, x4, x5, x6, x7, x8, x9, x10, x11, x12, x13, x14, x15, x16, x17, x18, x19, x20)) hR0 (by omega)) k_Mo_102 zL_mv d_Mo_of_90 hc_Mo 0 rfl rfl rfl (Nat.le_of_ble_eq_true rfl) ⟨by decide, by decide⟩ ?_
          refine z_iadd hJ d_Mo_of_93 ?_
          refine z_iconst (v := 1) hJ d_Mo_of_94 (by decide) ?_
          refine z_isub hJ d_Mo_of_95 ?_
          refine z_aload_n hJ d_Mo_of_96 0 rfl ?_
          refine z_iload_n hJ d_Mo_of_97 1 rfl ?_
          refine z_callVi hJ (m_Mo_paceOf (M := (x0, x1, 127, x3, x4, x5, x6, x7, x8, x9, x10, x11, x12, x13, x14, x15, x16, x17, x18, x19, x20)) hR0 (by omega)) k_Mo_102 zL_mv d_Mo_of_98 hc_Mo 0 rfl rfl rfl (Nat.le_of_ble_eq_true rfl) ⟨by decide, by decide⟩ ?_
          refine z_idiv hJ d_Mo_of_101 (q_pace_0 _) ?_
          exact z_ri hR d_Mo_of_102 (by simp [p_of, hq, hcl, q_htg_m hG hj, c_5, c_15, c_26]; try rfl) (by simp [p_of, hq, hcl, q_htg_m hG hj, c_5, c_15, c_26])
      · skip
        obtain ⟨c, hc, rfl⟩ := q_in_nat (n := 8) (by decide) (show q_in w 0 (nI 8 - 1) = true from c_15)
        have s_5 : ¬ c = 5 := fun e => by rw [e] at c_26; exact absurd c_26 (by decide)
        have s_6 : ¬ c = 6 := fun e => by rw [e] at c_26; exact absurd c_26 (by decide)
        have s_7 : ¬ c = 7 := fun e => by rw [e] at c_26; exact absurd c_26 (by decide)
        have hc5 : c < 5 := by omega
        refine z_aload_n hJ d_Mo_of_103 0 rfl ?_
        refine z_iload_n hJ d_Mo_of_104 1 rfl ?_
        refine z_iload_n hJ d_Mo_of_105 2 rfl ?_
        refine z_callVi hJ (m_Mo_its (M := (x0, x1, 127, x3, x4, x5, x6, x7, x8, x9, x10, x11, x12, x13, x14, x15, x16, x17, x18, x19, x20)) (p := j) (w := c) (by omega) hc5) k_Mo_76 zL_mv d_Mo_of_106 hc_Mo 0 rfl rfl rfl (Nat.le_of_ble_eq_true rfl) ⟨by decide, by decide⟩ ?_
        exact z_ri hR d_Mo_of_109 (by rw [(p_of_c x1 hR0 hj hj7 hc5).1]) (by rw [(p_of_c x1 hR0 hj hj7 hc5).2])
    · skip
      try dsimp only at c_15
      refine z_aload_n hJ d_Mo_of_18 0 rfl ?_
      refine z_ldc hJ d_Mo_of_19 c_Mo_51 ?_
      refine z_callVi hJ m_Mo_finds_0 k_Mo_67 zL_mv d_Mo_of_21 hc_Mo 0 rfl rfl rfl (Nat.le_of_ble_eq_true rfl) ⟨by decide, by decide⟩ ?_
      exact z_ri hR d_Mo_of_24 (by rw [p_of_no _ _ _ _ c_15]) (by rw [p_of_no _ _ _ _ c_15])
  · skip
    refine z_aload_n hJ d_Mo_of_0 0 rfl ?_
    refine z_iload_n hJ d_Mo_of_1 1 rfl ?_
    refine z_callVi hJ (m_Mo_isOne (M := (x0, x1, 127, x3, x4, x5, x6, x7, x8, x9, x10, x11, x12, x13, x14, x15, x16, x17, x18, x19, x20)) hR0) k_Mo_96 zL_mv d_Mo_of_2 hc_Mo 0 rfl rfl rfl (Nat.le_of_ble_eq_true rfl) ⟨by decide, by decide⟩ ?_
    refine zb_eq hJ d_Mo_of_5 (fun c_5 => ?_) (fun c_5 => False.elim (by rw [hq] at c_5; exact absurd c_5 (by decide)))
    refine z_aload_n hJ d_Mo_of_18 0 rfl ?_
    refine z_ldc hJ d_Mo_of_19 c_Mo_51 ?_
    refine z_callVi hJ m_Mo_finds_0 k_Mo_67 zL_mv d_Mo_of_21 hc_Mo 0 rfl rfl rfl (Nat.le_of_ble_eq_true rfl) ⟨by decide, by decide⟩ ?_
    exact z_ri hR d_Mo_of_24 (by simp [p_of, hq, c_5]; try rfl) (by simp [p_of, hq, c_5])
set_option maxRecDepth 100000 in
theorem m_Mo_taskOf {g : Nat → Nat → Nat} {a : Nat → Nat} {x0 : Nat → Int32} {x1 : Nat → Int32} {x3 : Nat → Int32} {x4 : Nat → Int32} {x5 : Nat → Int64} {x6 : Nat → Int32} {x7 : Nat} {x8 : Int32} {x9 : Nat} {x10 : Nat} {x11 : Int64} {x12 : Int32} {x13 : Bool} {x14 : Nat → Int32} {x15 : Nat → Int32} {x16 : Nat → Int64} {x17 : Nat → Int64} {x18 : Nat → Int32} {x19 : Nat → Int32} {x20 : Bool} {P : RS} {i w : Int32} (hR0 : zRo P x0) (hP : zPi P) (hG : zRg P) : zM g y_Mo_taskOf b_Mo_taskOf 3 (some .int) 7 [.ref (a 0), .int i, .int w] (mV g a x0 x1 127 x3 x4 x5 x6 x7 x8 x9 x10 x11 x12 x13 x14 x15 x16 x17 x18 x19 x20) [.int (p_taskOf x1 P i w).1] (mV g a x0 ((p_taskOf x1 P i w).2) 127 x3 x4 x5 x6 x7 x8 x9 x10 x11 x12 x13 x14 x15 x16 x17 x18 x19 x20) := by
  refine zMi (lv := [(0, .ref (a 0)), (1, .int i), (2, .int w)]) (by decide) (Nat.le_of_ble_eq_true rfl) rfl (fun J hJ hR => ?_)
  rcases q_ix_or i (n := P.2.2.1) (by first | exact Nat.le_trans hP.1 (by decide) | exact hP.2.1) with ⟨j, hj, rfl⟩ | hq
  · have hj7 := hP.1
    have hj8 := hP.2.1
    have hq := q_ix_t hj (n := P.2.2.1) (by omega)
    have hcl : (nI j).toNatClampNeg = j := nI_clamp (by omega)
    refine z_aload_n hJ d_Mo_taskOf_0 0 rfl ?_
    refine z_iload_n hJ d_Mo_taskOf_1 1 rfl ?_
    refine z_callVi hJ (m_Mo_isTask (M := (x0, x1, 127, x3, x4, x5, x6, x7, x8, x9, x10, x11, x12, x13, x14, x15, x16, x17, x18, x19, x20)) hR0) k_Mo_126 zL_mv d_Mo_taskOf_2 hc_Mo 0 rfl rfl rfl (Nat.le_of_ble_eq_true rfl) ⟨by decide, by decide⟩ ?_
    refine zb_eq hJ d_Mo_taskOf_5 (fun c_5 => False.elim (by rw [hq] at c_5; exact absurd c_5 (by decide))) (fun c_5 => ?_)
    refine z_iload_n hJ d_Mo_taskOf_8 2 rfl ?_
    refine z_iconst (v := 0) hJ d_Mo_taskOf_9 (by decide) ?_
    refine z_bipush (v := 6) hJ d_Mo_taskOf_10 (by decide) ?_
    refine z_callSi hJ m_Mo_in k_Mo_52 zL.nil d_Mo_taskOf_12 rfl rfl (Nat.le_of_ble_eq_true rfl) ⟨by decide, by decide⟩ ?_
    refine zb_ne hJ d_Mo_taskOf_15 (fun c_15 => ?_) (fun c_15 => ?_)
    · skip
      try dsimp only at c_15
      refine z_iload_n hJ d_Mo_taskOf_25 2 rfl ?_
      refine z_sw (tgt := 78) [(4, 52), (5, 58), (6, 72)] hJ d_Mo_taskOf_26 (by decide) (by decide) ?_ (fun c_26 => ?_)
      · intro q hq e
        simp only [List.mem_cons, List.not_mem_nil, or_false] at hq
        rcases hq with rfl | rfl | rfl
        · have c_26 := e.trans (show Int32.ofInt 4 = 4 by decide)
          refine z_aload_n hJ d_Mo_taskOf_52 0 rfl ?_
          refine z_iload_n hJ d_Mo_taskOf_53 1 rfl ?_
          refine z_callVi hJ (m_Mo_helpOf7 (M := (x0, x1, 127, x3, x4, x5, x6, x7, x8, x9, x10, x11, x12, x13, x14, x15, x16, x17, x18, x19, x20)) hR0 hP hG rfl (by omega)) k_Mo_123 zL_mv d_Mo_taskOf_54 hc_Mo 0 rfl rfl rfl (Nat.le_of_ble_eq_true rfl) ⟨by decide, by decide⟩ ?_
          exact z_ri hR d_Mo_taskOf_57 (by simp [p_taskOf, hq, hcl, c_5, c_15, c_26]; try rfl) (by simp [p_taskOf, hq, hcl, c_5, c_15, c_26])
        · have c_26 := e.trans (show Int32.ofInt 5 = 5 by decide)
          refine z_aload_n hJ d_Mo_taskOf_58 0 rfl ?_
          refine z_iload_n hJ d_Mo_taskOf_59 1 rfl ?_
          refine z_callVi hJ (m_Mo_isMet7 (M := (x0, x1, 127, x3, x4, x5, x6, x7, x8, x9, x10, x11, x12, x13, x14, x15, x16, x17, x18, x19, x20)) hR0 hP hG rfl (by omega)) k_Mo_129 zL_mv d_Mo_taskOf_60 hc_Mo 0 rfl rfl rfl (Nat.le_of_ble_eq_true rfl) ⟨by decide, by decide⟩ ?_
          refine zb_eq hJ d_Mo_taskOf_63 (fun c_63 => ?_) (fun c_63 => ?_)
          · skip
            try dsimp only at c_63
            refine z_iconst (v := 0) hJ d_Mo_taskOf_70 (by decide) ?_
            exact z_ri hR d_Mo_taskOf_71 (by simp [p_taskOf, hq, hcl, c_5, c_15, c_26, c_63]; try rfl) (by simp [p_taskOf, hq, hcl, c_5, c_15, c_26, c_63])
          · skip
            try dsimp only at c_63
            refine z_iconst (v := 1) hJ d_Mo_taskOf_66 (by decide) ?_
            refine z_goto hJ d_Mo_taskOf_67 ?_
            exact z_ri hR d_Mo_taskOf_71 (by simp [p_taskOf, hq, hcl, c_5, c_15, c_26, c_63]; try rfl) (by simp [p_taskOf, hq, hcl, c_5, c_15, c_26, c_63])
        · have c_26 := e.trans (show Int32.ofInt 6 = 6 by decide)
          refine z_aload_n hJ d_Mo_taskOf_72 0 rfl ?_
          refine z_iload_n hJ d_Mo_taskOf_73 1 rfl ?_
          refine z_callVi hJ (m_Mo_helpers7 (M := (x0, x1, 127, x3, x4, x5, x6, x7, x8, x9, x10, x11, x12, x13, x14, x15, x16, x17, x18, x19, x20)) hR0 hP hG rfl (by omega)) k_Mo_132 zL_mv d_Mo_taskOf_74 hc_Mo 0 rfl rfl rfl (Nat.le_of_ble_eq_true rfl) ⟨by decide, by decide⟩ ?_
          exact z_ri hR d_Mo_taskOf_77 (by simp [p_taskOf, hq, hcl, c_5, c_15, c_26]; try rfl) (by simp [p_taskOf, hq, hcl, c_5, c_15, c_26])
      · skip
        obtain ⟨c, hc, rfl⟩ := q_in_nat (n := 7) (by decide) (show q_in w 0 (nI 7 - 1) = true from c_15)
        have s_4 : ¬ c = 4 := fun e => by rw [e] at c_26; exact absurd c_26 (by decide)
        have s_5 : ¬ c = 5 := fun e => by rw [e] at c_26; exact absurd c_26 (by decide)
        have s_6 : ¬ c = 6 := fun e => by rw [e] at c_26; exact absurd c_26 (by decide)
        have hc5 : c < 4 := by omega
        refine z_aload_n hJ d_Mo_taskOf_78 0 rfl ?_
        refine z_iload_n hJ d_Mo_taskOf_79 1 rfl ?_
        refine z_iload_n hJ d_Mo_taskOf_80 2 rfl ?_
        refine z_callVi hJ (m_Mo_asks (M := (x0, x1, 127, x3, x4, x5, x6, x7, x8, x9, x10, x11, x12, x13, x14, x15, x16, x17, x18, x19, x20)) (t := j) (w := c) (by omega) hc5) k_Mo_117 zL_mv d_Mo_taskOf_81 hc_Mo 0 rfl rfl rfl (Nat.le_of_ble_eq_true rfl) ⟨by decide, by decide⟩ ?_
        exact z_ri hR d_Mo_taskOf_84 (by rw [(p_taskOf_c x1 hR0 hj hj8 hc5).1]) (by rw [(p_taskOf_c x1 hR0 hj hj8 hc5).2])
    · skip
      try dsimp only at c_15
      refine z_aload_n hJ d_Mo_taskOf_18 0 rfl ?_
      refine z_ldc hJ d_Mo_taskOf_19 c_Mo_51 ?_
      refine z_callVi hJ m_Mo_finds_0 k_Mo_67 zL_mv d_Mo_taskOf_21 hc_Mo 0 rfl rfl rfl (Nat.le_of_ble_eq_true rfl) ⟨by decide, by decide⟩ ?_
      exact z_ri hR d_Mo_taskOf_24 (by rw [p_taskOf_no _ _ _ _ c_15]) (by rw [p_taskOf_no _ _ _ _ c_15])
  · skip
    refine z_aload_n hJ d_Mo_taskOf_0 0 rfl ?_
    refine z_iload_n hJ d_Mo_taskOf_1 1 rfl ?_
    refine z_callVi hJ (m_Mo_isTask (M := (x0, x1, 127, x3, x4, x5, x6, x7, x8, x9, x10, x11, x12, x13, x14, x15, x16, x17, x18, x19, x20)) hR0) k_Mo_126 zL_mv d_Mo_taskOf_2 hc_Mo 0 rfl rfl rfl (Nat.le_of_ble_eq_true rfl) ⟨by decide, by decide⟩ ?_
    refine zb_eq hJ d_Mo_taskOf_5 (fun c_5 => ?_) (fun c_5 => False.elim (by rw [hq] at c_5; exact absurd c_5 (by decide)))
    refine z_aload_n hJ d_Mo_taskOf_18 0 rfl ?_
    refine z_ldc hJ d_Mo_taskOf_19 c_Mo_51 ?_
    refine z_callVi hJ m_Mo_finds_0 k_Mo_67 zL_mv d_Mo_taskOf_21 hc_Mo 0 rfl rfl rfl (Nat.le_of_ble_eq_true rfl) ⟨by decide, by decide⟩ ?_
    exact z_ri hR d_Mo_taskOf_24 (by simp [p_taskOf, hq, c_5]; try rfl) (by simp [p_taskOf, hq, c_5])
set_option maxRecDepth 100000 in
theorem m_Mo_fellow {g : Nat → Nat → Nat} {a : Nat → Nat} {x0 : Nat → Int32} {x1 : Nat → Int32} {x3 : Nat → Int32} {x4 : Nat → Int32} {x5 : Nat → Int64} {x6 : Nat → Int32} {x7 : Nat} {x8 : Int32} {x9 : Nat} {x10 : Nat} {x11 : Int64} {x12 : Int32} {x13 : Bool} {x14 : Nat → Int32} {x15 : Nat → Int32} {x16 : Nat → Int64} {x17 : Nat → Int64} {x18 : Nat → Int32} {x19 : Nat → Int32} {x20 : Bool} {P : RS} {k m : Int32} (hR0 : zRo P x0) (hP : zPi P) (hG : zRg P) : zM g y_Mo_fellow b_Mo_fellow 3 (some .int) 2 [.ref (a 0), .int k, .int m] (mV g a x0 x1 127 x3 x4 x5 x6 x7 x8 x9 x10 x11 x12 x13 x14 x15 x16 x17 x18 x19 x20) [.int (p_fellow x1 P k m).1] (mV g a (if q_in k 0 5 && q_in m 0 30 && decide (P.2.1 < 7) then q_ad x0 P.2.1 k m m 3 0 else x0) ((p_fellow x1 P k m).2.1) 127 x3 x4 x5 x6 x7 x8 x9 x10 x11 x12 x13 x14 x15 x16 x17 x18 x19 x20) := by
  have hj7 := hP.1
  have hj8 := hP.2.1
  refine zMi (lv := [(0, .ref (a 0)), (1, .int k), (2, .int m)]) (by decide) (Nat.le_of_ble_eq_true rfl) rfl (fun J hJ hR => ?_)
  refine z_iload_n hJ d_Mo_fellow_0 1 rfl ?_
  refine z_callSi hJ m_Mo_isKind k_Mo_60 zL.nil d_Mo_fellow_1 rfl rfl (Nat.le_of_ble_eq_true rfl) ⟨by decide, by decide⟩ ?_
  refine zb_eq hJ d_Mo_fellow_4 (fun c_4 => ?_) (fun c_4 => ?_)
  · skip
    try dsimp only at c_4
    refine z_aload_n hJ d_Mo_fellow_14 0 rfl ?_
    refine z_ldc hJ d_Mo_fellow_15 c_Mo_51 ?_
    refine z_callVi hJ m_Mo_finds_0 k_Mo_67 zL_mv d_Mo_fellow_17 hc_Mo 0 rfl rfl rfl (Nat.le_of_ble_eq_true rfl) ⟨by decide, by decide⟩ ?_
    exact z_ri hR d_Mo_fellow_20 (by simp [p_fellow, c_4]; try rfl) (by simp [p_fellow, c_4])
  · skip
    try dsimp only at c_4
    refine z_iload_n hJ d_Mo_fellow_7 2 rfl ?_
    refine z_callSi hJ m_Mo_isMile k_Mo_64 zL.nil d_Mo_fellow_8 rfl rfl (Nat.le_of_ble_eq_true rfl) ⟨by decide, by decide⟩ ?_
    refine zb_ne hJ d_Mo_fellow_11 (fun c_11 => ?_) (fun c_11 => ?_)
    · skip
      try dsimp only at c_11
      refine z_aload_n hJ d_Mo_fellow_21 0 rfl ?_
      refine z_get hJ d_Mo_fellow_22 hc_Mo f_Mo_7 0 rfl rfl (by decide) ?_
      refine z_iconst (v := 1) hJ d_Mo_fellow_25 (by decide) ?_
      refine z_iald hJ d_Mo_fellow_26 1 (1) rfl rfl (by decide) (by decide) ?_
      refine z_c (y := nI P.2.1) hR0.2.1 ?_
      refine z_bipush (v := 7) hJ d_Mo_fellow_27 (by decide) ?_
      refine z_icmp_ne hJ d_Mo_fellow_29 (fun c_29 => ?_) (fun c_29 => ?_)
      · skip
        try dsimp only at c_29
        have h_29 : ¬ (P.2.1 = 7) := by
          have e := nI_eq (a := P.2.1) (b := 7) (by omega) (by omega)
          exact fun q => c_29 (e.mpr q)
        refine z_aload_n hJ d_Mo_fellow_39 0 rfl ?_
        refine z_iload_n hJ d_Mo_fellow_40 1 rfl ?_
        refine z_iload_n hJ d_Mo_fellow_41 2 rfl ?_
        refine z_iload_n hJ d_Mo_fellow_42 2 rfl ?_
        refine z_iconst (v := 3) hJ d_Mo_fellow_43 (by decide) ?_
        refine z_iconst (v := 0) hJ d_Mo_fellow_44 (by decide) ?_
        refine z_callVv hJ (m_Mo_addOne (M := (x0, x1, 127, x3, x4, x5, x6, x7, x8, x9, x10, x11, x12, x13, x14, x15, x16, x17, x18, x19, x20)) hR0.2.1 (by omega)) k_Mo_72 zL_mv d_Mo_fellow_45 hc_Mo 0 rfl rfl rfl (Nat.le_of_ble_eq_true rfl) ⟨by decide, by decide⟩ ?_
        refine z_aload_n hJ d_Mo_fellow_48 0 rfl ?_
        refine z_get hJ d_Mo_fellow_49 hc_Mo f_Mo_7 0 rfl rfl (by decide) ?_
        refine z_iconst (v := 1) hJ d_Mo_fellow_52 (by decide) ?_
        refine z_iald hJ d_Mo_fellow_53 1 (1) rfl rfl (by decide) (by decide) ?_
        refine z_c (y := nI (P.2.1 + 1)) (upd_eq _ _ _) ?_
        refine z_iconst (v := 1) hJ d_Mo_fellow_54 (by decide) ?_
        refine z_isub hJ d_Mo_fellow_55 ?_
        refine z_c (y := nI P.2.1) (by rw [zsub1 (by omega)]; rfl) ?_
        exact z_ri hR d_Mo_fellow_56 (by simp [p_fellow, show P.2.1 < 7 by omega, c_4, c_11, c_29]; try rfl) (by simp [p_fellow, show P.2.1 < 7 by omega, c_4, c_11, c_29])
      · skip
        try dsimp only at c_29
        have h_29 : P.2.1 = 7 := by
          have e := nI_eq (a := P.2.1) (b := 7) (by omega) (by omega)
          exact e.mp c_29
        refine z_aload_n hJ d_Mo_fellow_32 0 rfl ?_
        refine z_ldc hJ d_Mo_fellow_33 c_Mo_71 ?_
        refine z_callVi hJ m_Mo_finds_1 k_Mo_67 zL_mv d_Mo_fellow_35 hc_Mo 0 rfl rfl rfl (Nat.le_of_ble_eq_true rfl) ⟨by decide, by decide⟩ ?_
        exact z_ri hR d_Mo_fellow_38 (by simp [p_fellow, show ¬ P.2.1 < 7 by omega, c_4, c_11, c_29]; try rfl) (by simp [p_fellow, show ¬ P.2.1 < 7 by omega, c_4, c_11, c_29])
    · skip
      try dsimp only at c_11
      refine z_aload_n hJ d_Mo_fellow_14 0 rfl ?_
      refine z_ldc hJ d_Mo_fellow_15 c_Mo_51 ?_
      refine z_callVi hJ m_Mo_finds_0 k_Mo_67 zL_mv d_Mo_fellow_17 hc_Mo 0 rfl rfl rfl (Nat.le_of_ble_eq_true rfl) ⟨by decide, by decide⟩ ?_
      exact z_ri hR d_Mo_fellow_20 (by simp [p_fellow, c_4, c_11]; try rfl) (by simp [p_fellow, c_4, c_11])
set_option maxRecDepth 100000 in
theorem m_Mo_task {g : Nat → Nat → Nat} {a : Nat → Nat} {x0 : Nat → Int32} {x1 : Nat → Int32} {x3 : Nat → Int32} {x4 : Nat → Int32} {x5 : Nat → Int64} {x6 : Nat → Int32} {x7 : Nat} {x8 : Int32} {x9 : Nat} {x10 : Nat} {x11 : Int64} {x12 : Int32} {x13 : Bool} {x14 : Nat → Int32} {x15 : Nat → Int32} {x16 : Nat → Int64} {x17 : Nat → Int64} {x18 : Nat → Int32} {x19 : Nat → Int32} {x20 : Bool} {P : RS} {so m ne pa : Int32} (hR0 : zRo P x0) (hP : zPi P) (hG : zRg P) : zM g y_Mo_task b_Mo_task 5 (some .int) 3 [.ref (a 0), .int so, .int m, .int ne, .int pa] (mV g a x0 x1 127 x3 x4 x5 x6 x7 x8 x9 x10 x11 x12 x13 x14 x15 x16 x17 x18 x19 x20) [.int (p_task x1 P so m ne pa).1] (mV g a (if (q_in so 0 4 && (q_in m 0 30 && (q_in ne 1 99 && q_in pa 0 99))) && decide (P.2.2.1 < 8) then q_at x0 P.2.2.1 so m ne pa else x0) ((p_task x1 P so m ne pa).2.1) 127 x3 x4 x5 x6 x7 x8 x9 x10 x11 x12 x13 x14 x15 x16 x17 x18 x19 x20) := by
  have hj7 := hP.1
  have hj8 := hP.2.1
  refine zMi (lv := [(0, .ref (a 0)), (1, .int so), (2, .int m), (3, .int ne), (4, .int pa)]) (by decide) (Nat.le_of_ble_eq_true rfl) rfl (fun J hJ hR => ?_)
  refine z_iload_n hJ d_Mo_task_0 1 rfl ?_
  refine z_iload_n hJ d_Mo_task_1 2 rfl ?_
  refine z_iload_n hJ d_Mo_task_2 3 rfl ?_
  refine z_iload hJ d_Mo_task_3 4 rfl ?_
  refine z_callSi hJ m_Mo_isWanted k_Mo_109 zL.nil d_Mo_task_5 rfl rfl (Nat.le_of_ble_eq_true rfl) ⟨by decide, by decide⟩ ?_
  refine zb_ne hJ d_Mo_task_8 (fun c_8 => ?_) (fun c_8 => ?_)
  · skip
    try dsimp only at c_8
    refine z_aload_n hJ d_Mo_task_18 0 rfl ?_
    refine z_get hJ d_Mo_task_19 hc_Mo f_Mo_7 0 rfl rfl (by decide) ?_
    refine z_iconst (v := 2) hJ d_Mo_task_22 (by decide) ?_
    refine z_iald hJ d_Mo_task_23 1 (2) rfl rfl (by decide) (by decide) ?_
    refine z_c (y := nI P.2.2.1) hR0.2.2.1 ?_
    refine z_bipush (v := 8) hJ d_Mo_task_24 (by decide) ?_
    refine z_icmp_ne hJ d_Mo_task_26 (fun c_26 => ?_) (fun c_26 => ?_)
    · skip
      try dsimp only at c_26
      have h_26 : ¬ (P.2.2.1 = 8) := by
        have e := nI_eq (a := P.2.2.1) (b := 8) (by omega) (by omega)
        exact fun q => c_26 (e.mpr q)
      refine z_aload_n hJ d_Mo_task_36 0 rfl ?_
      refine z_iload_n hJ d_Mo_task_37 1 rfl ?_
      refine z_iload_n hJ d_Mo_task_38 2 rfl ?_
      refine z_iload_n hJ d_Mo_task_39 3 rfl ?_
      refine z_iload hJ d_Mo_task_40 4 rfl ?_
      refine z_callVv hJ (m_Mo_addTask (M := (x0, x1, 127, x3, x4, x5, x6, x7, x8, x9, x10, x11, x12, x13, x14, x15, x16, x17, x18, x19, x20)) hR0.2.2.1 (by omega)) k_Mo_113 zL_mv d_Mo_task_42 hc_Mo 0 rfl rfl rfl (Nat.le_of_ble_eq_true rfl) ⟨by decide, by decide⟩ ?_
      refine z_aload_n hJ d_Mo_task_45 0 rfl ?_
      refine z_get hJ d_Mo_task_46 hc_Mo f_Mo_7 0 rfl rfl (by decide) ?_
      refine z_iconst (v := 2) hJ d_Mo_task_49 (by decide) ?_
      refine z_iald hJ d_Mo_task_50 1 (2) rfl rfl (by decide) (by decide) ?_
      refine z_c (y := nI (P.2.2.1 + 1)) (upd_eq _ _ _) ?_
      refine z_iconst (v := 1) hJ d_Mo_task_51 (by decide) ?_
      refine z_isub hJ d_Mo_task_52 ?_
      refine z_c (y := nI P.2.2.1) (by rw [zsub1 (by omega)]; rfl) ?_
      exact z_ri hR d_Mo_task_53 (by simp [p_task, show P.2.2.1 < 8 by omega, c_8, c_26]; try rfl) (by simp [p_task, show P.2.2.1 < 8 by omega, c_8, c_26])
    · skip
      try dsimp only at c_26
      have h_26 : P.2.2.1 = 8 := by
        have e := nI_eq (a := P.2.2.1) (b := 8) (by omega) (by omega)
        exact e.mp c_26
      refine z_aload_n hJ d_Mo_task_29 0 rfl ?_
      refine z_ldc hJ d_Mo_task_30 c_Mo_71 ?_
      refine z_callVi hJ m_Mo_finds_1 k_Mo_67 zL_mv d_Mo_task_32 hc_Mo 0 rfl rfl rfl (Nat.le_of_ble_eq_true rfl) ⟨by decide, by decide⟩ ?_
      exact z_ri hR d_Mo_task_35 (by simp [p_task, show ¬ P.2.2.1 < 8 by omega, c_8, c_26]; try rfl) (by simp [p_task, show ¬ P.2.2.1 < 8 by omega, c_8, c_26])
  · skip
    try dsimp only at c_8
    refine z_aload_n hJ d_Mo_task_11 0 rfl ?_
    refine z_ldc hJ d_Mo_task_12 c_Mo_51 ?_
    refine z_callVi hJ m_Mo_finds_0 k_Mo_67 zL_mv d_Mo_task_14 hc_Mo 0 rfl rfl rfl (Nat.le_of_ble_eq_true rfl) ⟨by decide, by decide⟩ ?_
    exact z_ri hR d_Mo_task_17 (by simp [p_task, c_8]; try rfl) (by simp [p_task, c_8])
