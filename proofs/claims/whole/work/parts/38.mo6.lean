theorem upd_id {r : Nat → Int32} {i : Nat} {v : Int32} (h : r i = v) : upd r i v = r := by
  funext x
  unfold upd
  by_cases e : x = i
  · rw [if_pos e, ← h, e]
  · rw [if_neg e]
theorem q_ew_N (P : RS) (k : Nat) : q_earn (q_hN P k) (q_awk (q_hN P k)) = q_ew P k := by
  unfold q_ew
  rw [q_earn_2 (q_hN_it P k), q_awk_2 (q_hN_it P k)]
theorem q_mw_N (P : RS) (t k : Nat) : q_isMet (q_hN P k) (q_awk (q_hN P k)) t = q_mw P t k := by
  unfold q_mw
  rw [q_isMet_2 (q_hN_it P k), q_awk_2 (q_hN_it P k)]
theorem q_bst_1 {P : RS} (hG : zRg P) (h8 : P.2.2.1 ≤ 8) : q_bst (q_ew P) 1 = (0, q_ew P 0) := by
  obtain ⟨e, he, ee⟩ := q_earn_pos hG h8 (q_awk P)
  rw [q_bst, if_neg]
  show ¬ q_earn P (q_awk P) ≤ -1
  rw [ee]
  intro q
  exact absurd (Int32.le_trans (nI_pos' (n := e) (by omega)) q) (by decide)
set_option maxRecDepth 100000 in
theorem m_Mo_undo {g : Nat → Nat → Nat} {a : Nat → Nat} {x0 : Nat → Int32} {x1 : Nat → Int32} {x3 : Nat → Int32} {x4 : Nat → Int32} {x5 : Nat → Int64} {x6 : Nat → Int32} {x7 : Nat} {x8 : Int32} {x9 : Nat} {x10 : Nat} {x11 : Int64} {x12 : Int32} {x13 : Bool} {x14 : Nat → Int32} {x15 : Nat → Int32} {x16 : Nat → Int64} {x17 : Nat → Int64} {x18 : Nat → Int32} {x19 : Nat → Int32} {x20 : Bool} {P : RS} {K : RS} (hR0 : zRo P x0) (hP : zPi P) (hG : zRg P) (hK : x20 = true → x18 1 = nI K.2.1) : zM g y_Mo_undo b_Mo_undo 1 (some .int) 1 [.ref (a 0)] (mV g a x0 x1 127 x3 x4 x5 x6 x7 x8 x9 x10 x11 x12 x13 x14 x15 x16 x17 x18 x19 x20) [.int (p_undo x1 P K x20).1] (mV g a (if x20 then x18 else x0) ((p_undo x1 P K x20).2.1) 127 x3 x4 x5 x6 x7 x8 x9 x10 x11 x12 x13 x14 x15 x16 x17 x18 x19 x20) := by
  refine zMi (lv := [(0, .ref (a 0))]) (by decide) (Nat.le_of_ble_eq_true rfl) rfl (fun J hJ hR => ?_)
  refine z_aload_n hJ d_Mo_undo_0 0 rfl ?_
  refine z_get hJ d_Mo_undo_1 hc_Mo f_Mo_322 0 rfl rfl (by decide) ?_
  refine zb_ne hJ d_Mo_undo_4 (fun c_4 => ?_) (fun c_4 => ?_)
  · skip
    try dsimp only at c_4
    refine z_aload_n hJ d_Mo_undo_14 0 rfl ?_
    refine z_iconst (v := 0) hJ d_Mo_undo_15 (by decide) ?_
    refine z_aload_n hJ d_Mo_undo_16 0 rfl ?_
    refine z_get hJ d_Mo_undo_17 hc_Mo f_Mo_45 0 rfl rfl (by decide) ?_
    refine z_callVv hJ m_Mo_moveAll_image_b k_Mo_155 zL.id d_Mo_undo_20 hc_Mo 0 rfl rfl rfl (Nat.le_of_ble_eq_true rfl) ⟨by decide, by decide⟩ ?_
    refine z_aload_n hJ d_Mo_undo_23 0 rfl ?_
    refine z_get hJ d_Mo_undo_24 hc_Mo f_Mo_7 0 rfl rfl (by decide) ?_
    refine z_iconst (v := 1) hJ d_Mo_undo_27 (by decide) ?_
    refine z_iald hJ d_Mo_undo_28 1 (1) rfl rfl (by decide) (by decide) ?_
    refine z_c (y := nI K.2.1) (hK c_4) ?_
    exact z_ri hR d_Mo_undo_29 (by simp [p_undo, c_4]; try rfl) (by simp [p_undo, c_4])
  · skip
    try dsimp only at c_4
    refine z_aload_n hJ d_Mo_undo_7 0 rfl ?_
    refine z_ldc hJ d_Mo_undo_8 c_Mo_159 ?_
    refine z_callVi hJ m_Mo_finds_3 k_Mo_67 zL_mv d_Mo_undo_10 hc_Mo 0 rfl rfl rfl (Nat.le_of_ble_eq_true rfl) ⟨by decide, by decide⟩ ?_
    exact z_ri hR d_Mo_undo_13 (by simp [p_undo, c_4]; try rfl) (by simp [p_undo, c_4])
set_option maxRecDepth 100000 in
theorem m_Mo_stand {g : Nat → Nat → Nat} {a : Nat → Nat} {x0 : Nat → Int32} {x1 : Nat → Int32} {x3 : Nat → Int32} {x4 : Nat → Int32} {x5 : Nat → Int64} {x6 : Nat → Int32} {x7 : Nat} {x8 : Int32} {x9 : Nat} {x10 : Nat} {x11 : Int64} {x12 : Int32} {x13 : Bool} {x14 : Nat → Int32} {x15 : Nat → Int32} {x16 : Nat → Int64} {x17 : Nat → Int64} {x18 : Nat → Int32} {x19 : Nat → Int32} {x20 : Bool} {P : RS} {i : Int32} (hR0 : zRo P x0) (hP : zPi P) (hG : zRg P) : zM g y_Mo_stand b_Mo_stand 7 (some .int) 8 [.ref (a 0), .int i] (mV g a x0 x1 127 x3 x4 x5 x6 x7 x8 x9 x10 x11 x12 x13 x14 x15 x16 x17 x18 x19 x20) [.int (p_stand x1 P P i).1] (mV g a x0 ((p_stand x1 P P i).2.1) 127 x3 x4 x5 x6 x7 x8 x9 x10 x11 x12 x13 x14 x15 x16 x17 x18 x19 x20) := by
  refine zMi (lv := [(0, .ref (a 0)), (1, .int i)]) (by decide) (Nat.le_of_ble_eq_true rfl) rfl (fun J hJ hR => ?_)
  rcases q_ix_or i (n := P.2.1) (by first | exact Nat.le_trans hP.1 (by decide) | exact hP.2.1) with ⟨k, hj, rfl⟩ | hq
  · have hj7 := hP.1
    have hj8 := hP.2.1
    have hq := q_ix_t hj (n := P.2.1) (by omega)
    have hcl : (nI k).toNatClampNeg = k := nI_clamp (by omega)
    refine z_aload_n hJ d_Mo_stand_0 0 rfl ?_
    refine z_iload_n hJ d_Mo_stand_1 1 rfl ?_
    refine z_callVi hJ (m_Mo_isOne (M := (x0, x1, 127, x3, x4, x5, x6, x7, x8, x9, x10, x11, x12, x13, x14, x15, x16, x17, x18, x19, x20)) hR0) k_Mo_96 zL_mv d_Mo_stand_2 hc_Mo 0 rfl rfl rfl (Nat.le_of_ble_eq_true rfl) ⟨by decide, by decide⟩ ?_
    refine zb_ne hJ d_Mo_stand_5 (fun c_5 => ?_) (fun c_5 => False.elim (by rw [hq] at c_5; exact absurd c_5 (by decide)))
    refine z_aload_n hJ d_Mo_stand_15 0 rfl ?_
    refine z_iload_n hJ d_Mo_stand_16 1 rfl ?_
    refine z_iconst (v := 1) hJ d_Mo_stand_17 (by decide) ?_
    refine z_callVi hJ (m_Mo_its1 (M := (x0, x1, 127, x3, x4, x5, x6, x7, x8, x9, x10, x11, x12, x13, x14, x15, x16, x17, x18, x19, x20)) hR0 (by omega)) k_Mo_76 zL_mv d_Mo_stand_18 hc_Mo 0 rfl rfl rfl (Nat.le_of_ble_eq_true rfl) ⟨by decide, by decide⟩ ?_
    refine z_istore_n (lv' := [(0, _), (1, _), (2, _)]) hJ d_Mo_stand_21 (by decide) rfl ?_
    refine z_iconst (v := 0) hJ d_Mo_stand_22 (by decide) ?_
    refine z_istore_n (lv' := [(0, _), (1, _), (2, _), (3, _)]) hJ d_Mo_stand_23 (by decide) rfl ?_
    refine z_iconst (v := (-1)) hJ d_Mo_stand_24 (by decide) ?_
    refine z_istore (lv' := [(0, _), (1, _), (2, _), (3, _), (4, _)]) hJ d_Mo_stand_25 (by decide) rfl ?_
    refine z_iconst (v := 0) hJ d_Mo_stand_27 (by decide) ?_
    refine z_istore (lv' := [(0, _), (1, _), (2, _), (3, _), (4, _), (5, _)]) hJ d_Mo_stand_28 (by decide) rfl ?_
    have L30 : ∀ j : Nat, j ≤ 31 → ∀ F : Nat → Int32, (∀ v, upd F (3 + 5 * k + 1) v = upd x0 (3 + 5 * k + 1) v) → J (mV g a F x1 127 x3 x4 x5 x6 x7 x8 x9 x10 x11 x12 x13 x14 x15 x16 x17 x18 x19 x20) 30 [(0, .ref (a 0)), (1, .int (nI k)), (2, .int (rm P k)), (3, .int (nI (q_bst (q_eM P k) j).1)), (4, .int (q_bst (q_eM P k) j).2), (5, .int (nI j))] [] := by
      refine zloop (31) (fun j hjN ih => ?_)
      intro F hF
      refine z_iload hJ d_Mo_stand_30 5 rfl ?_
      refine z_bipush (v := 30) hJ d_Mo_stand_32 (by decide) ?_
      refine z_icmp_gt hJ d_Mo_stand_34 (fun c_34 => ?_) (fun c_34 => ?_)
      · skip
        try dsimp only at c_34
        have h_34 : 30 < j := by
          have e := nI_ltI (a := 30) (b := j) (by omega) (by omega)
          exact e.mp c_34
        obtain rfl : j = 31 := by omega
        refine z_aload_n hJ d_Mo_stand_87 0 rfl ?_
        refine z_iload_n hJ d_Mo_stand_88 1 rfl ?_
        refine z_iconst (v := 1) hJ d_Mo_stand_89 (by decide) ?_
        refine z_iload_n hJ d_Mo_stand_90 2 rfl ?_
        refine z_callVv hJ (m_Mo_puts (p := k) (w := 1) (by omega) (by decide)) k_Mo_56 zL_mv d_Mo_stand_91 hc_Mo 0 rfl rfl rfl (Nat.le_of_ble_eq_true rfl) ⟨by decide, by decide⟩ ?_
        refine z_iload_n hJ d_Mo_stand_94 3 rfl ?_
        exact z_ri hR d_Mo_stand_95 (by simp [p_stand, hq, hcl]) (by rw [hF, upd_id (hR0.2.2.2.1 k (by omega)).2.1]; simp [p_stand, hq, hcl])
      · skip
        try dsimp only at c_34
        have h_34 : ¬ (30 < j) := by
          have e := nI_ltI (a := 30) (b := j) (by omega) (by omega)
          exact fun q => c_34 (e.mpr q)
        refine z_aload_n hJ d_Mo_stand_37 0 rfl ?_
        refine z_iload_n hJ d_Mo_stand_38 1 rfl ?_
        refine z_iconst (v := 1) hJ d_Mo_stand_39 (by decide) ?_
        refine z_iload hJ d_Mo_stand_40 5 rfl ?_
        refine z_callVv hJ (m_Mo_puts (p := k) (w := 1) (by omega) (by decide)) k_Mo_56 zL_mv d_Mo_stand_42 hc_Mo 0 rfl rfl rfl (Nat.le_of_ble_eq_true rfl) ⟨by decide, by decide⟩ ?_
        refine z_aload_n hJ d_Mo_stand_45 0 rfl ?_
        refine z_callVi hJ (m_Mo_earned7 (P := q_setM P k (nI j)) (M := (upd F (3 + 5 * k + 1) (nI j), x1, 127, x3, x4, x5, x6, x7, x8, x9, x10, x11, x12, x13, x14, x15, x16, x17, x18, x19, x20)) (by dsimp only; rw [hF]; exact hR0.setM (nI j) (by omega)) hP (hG.setM ⟨j, by omega, rfl⟩) rfl) k_Mo_135 zL_mv d_Mo_stand_46 hc_Mo 0 rfl rfl rfl (Nat.le_of_ble_eq_true rfl) ⟨by decide, by decide⟩ ?_
        refine z_c (y := q_eM P k j) rfl ?_
        refine z_istore (lv' := [(0, _), (1, _), (2, _), (3, _), (4, _), (5, _), (6, _)]) hJ d_Mo_stand_49 (by decide) rfl ?_
        refine z_iload hJ d_Mo_stand_51 6 rfl ?_
        refine z_iload hJ d_Mo_stand_53 4 rfl ?_
        refine z_icmp_le hJ d_Mo_stand_55 (fun c_55 => ?_) (fun c_55 => ?_)
        · skip
          try dsimp only at c_55
          refine z_iload_n hJ d_Mo_stand_63 3 rfl ?_
          refine z_istore_n (lv' := [(0, _), (1, _), (2, _), (3, _), (4, _), (5, _), (6, _)]) hJ d_Mo_stand_64 (by decide) rfl ?_
          refine z_iload hJ d_Mo_stand_65 6 rfl ?_
          refine z_iload hJ d_Mo_stand_67 4 rfl ?_
          refine z_icmp_le hJ d_Mo_stand_69 (fun c_69 => ?_) (fun c_69 => ?_)
          · skip
            try dsimp only at c_69
            refine z_iload hJ d_Mo_stand_77 4 rfl ?_
            refine z_istore (lv' := [(0, _), (1, _), (2, _), (3, _), (4, _), (5, _), (6, _)]) hJ d_Mo_stand_79 (by decide) rfl ?_
            refine z_iinc (v := nI (j + 1)) (lv' := [(0, _), (1, _), (2, _), (3, _), (4, _), (5, _), (6, _)]) hJ d_Mo_stand_81 5 rfl (zinc _) (by decide) rfl ?_
            refine z_goto hJ d_Mo_stand_84 ?_
            refine z_drop hJ [0, 1, 2, 3, 4, 5] rfl ?_
            have e := ih (by omega) (upd F (3 + 5 * k + 1) (nI j)) (fun v => (upd_upd _ _ _ _).trans (hF v))
            rw [q_bst_f (e := q_eM P k) c_55] at e
            exact e
          · skip
            try dsimp only at c_69
            refine z_iload hJ d_Mo_stand_72 6 rfl ?_
            refine z_goto hJ d_Mo_stand_74 ?_
            refine z_istore (lv' := [(0, _), (1, _), (2, _), (3, _), (4, _), (5, _), (6, _)]) hJ d_Mo_stand_79 (by decide) rfl ?_
            refine z_iinc (v := nI (j + 1)) (lv' := [(0, _), (1, _), (2, _), (3, _), (4, _), (5, _), (6, _)]) hJ d_Mo_stand_81 5 rfl (zinc _) (by decide) rfl ?_
            refine z_goto hJ d_Mo_stand_84 ?_
            refine z_drop hJ [0, 1, 2, 3, 4, 5] rfl ?_
            exact absurd c_55 c_69
        · skip
          try dsimp only at c_55
          refine z_iload hJ d_Mo_stand_58 5 rfl ?_
          refine z_goto hJ d_Mo_stand_60 ?_
          refine z_istore_n (lv' := [(0, _), (1, _), (2, _), (3, _), (4, _), (5, _), (6, _)]) hJ d_Mo_stand_64 (by decide) rfl ?_
          refine z_iload hJ d_Mo_stand_65 6 rfl ?_
          refine z_iload hJ d_Mo_stand_67 4 rfl ?_
          refine z_icmp_le hJ d_Mo_stand_69 (fun c_69 => ?_) (fun c_69 => ?_)
          · skip
            try dsimp only at c_69
            refine z_iload hJ d_Mo_stand_77 4 rfl ?_
            refine z_istore (lv' := [(0, _), (1, _), (2, _), (3, _), (4, _), (5, _), (6, _)]) hJ d_Mo_stand_79 (by decide) rfl ?_
            refine z_iinc (v := nI (j + 1)) (lv' := [(0, _), (1, _), (2, _), (3, _), (4, _), (5, _), (6, _)]) hJ d_Mo_stand_81 5 rfl (zinc _) (by decide) rfl ?_
            refine z_goto hJ d_Mo_stand_84 ?_
            refine z_drop hJ [0, 1, 2, 3, 4, 5] rfl ?_
            exact absurd c_69 c_55
          · skip
            try dsimp only at c_69
            refine z_iload hJ d_Mo_stand_72 6 rfl ?_
            refine z_goto hJ d_Mo_stand_74 ?_
            refine z_istore (lv' := [(0, _), (1, _), (2, _), (3, _), (4, _), (5, _), (6, _)]) hJ d_Mo_stand_79 (by decide) rfl ?_
            refine z_iinc (v := nI (j + 1)) (lv' := [(0, _), (1, _), (2, _), (3, _), (4, _), (5, _), (6, _)]) hJ d_Mo_stand_81 5 rfl (zinc _) (by decide) rfl ?_
            refine z_goto hJ d_Mo_stand_84 ?_
            refine z_drop hJ [0, 1, 2, 3, 4, 5] rfl ?_
            have e := ih (by omega) (upd F (3 + 5 * k + 1) (nI j)) (fun v => (upd_upd _ _ _ _).trans (hF v))
            rw [q_bst_t (e := q_eM P k) c_55] at e
            exact e
    exact L30 0 (Nat.zero_le _) _ (fun v => rfl)
  · skip
    refine z_aload_n hJ d_Mo_stand_0 0 rfl ?_
    refine z_iload_n hJ d_Mo_stand_1 1 rfl ?_
    refine z_callVi hJ (m_Mo_isOne (M := (x0, x1, 127, x3, x4, x5, x6, x7, x8, x9, x10, x11, x12, x13, x14, x15, x16, x17, x18, x19, x20)) hR0) k_Mo_96 zL_mv d_Mo_stand_2 hc_Mo 0 rfl rfl rfl (Nat.le_of_ble_eq_true rfl) ⟨by decide, by decide⟩ ?_
    refine zb_ne hJ d_Mo_stand_5 (fun c_5 => False.elim (by rw [hq] at c_5; exact absurd c_5 (by decide))) (fun c_5 => ?_)
    refine z_aload_n hJ d_Mo_stand_8 0 rfl ?_
    refine z_ldc hJ d_Mo_stand_9 c_Mo_51 ?_
    refine z_callVi hJ m_Mo_finds_0 k_Mo_67 zL_mv d_Mo_stand_11 hc_Mo 0 rfl rfl rfl (Nat.le_of_ble_eq_true rfl) ⟨by decide, by decide⟩ ?_
    exact z_ri hR d_Mo_stand_14 (by simp [p_stand, hq, c_5]; try rfl) (by simp [p_stand, hq, c_5])
set_option maxRecDepth 100000 in
theorem m_Mo_kind {g : Nat → Nat → Nat} {a : Nat → Nat} {x0 : Nat → Int32} {x1 : Nat → Int32} {x3 : Nat → Int32} {x4 : Nat → Int32} {x5 : Nat → Int64} {x6 : Nat → Int32} {x7 : Nat} {x8 : Int32} {x9 : Nat} {x10 : Nat} {x11 : Int64} {x12 : Int32} {x13 : Bool} {x14 : Nat → Int32} {x15 : Nat → Int32} {x16 : Nat → Int64} {x17 : Nat → Int64} {x18 : Nat → Int32} {x19 : Nat → Int32} {x20 : Bool} {P : RS} {i : Int32} (hR0 : zRo P x0) (hP : zPi P) (hG : zRg P) : zM g y_Mo_kind b_Mo_kind 7 (some .int) 8 [.ref (a 0), .int i] (mV g a x0 x1 127 x3 x4 x5 x6 x7 x8 x9 x10 x11 x12 x13 x14 x15 x16 x17 x18 x19 x20) [.int (p_kind x1 P P i).1] (mV g a x0 ((p_kind x1 P P i).2.1) 127 x3 x4 x5 x6 x7 x8 x9 x10 x11 x12 x13 x14 x15 x16 x17 x18 x19 x20) := by
  refine zMi (lv := [(0, .ref (a 0)), (1, .int i)]) (by decide) (Nat.le_of_ble_eq_true rfl) rfl (fun J hJ hR => ?_)
  rcases q_ix_or i (n := P.2.1) (by first | exact Nat.le_trans hP.1 (by decide) | exact hP.2.1) with ⟨k, hj, rfl⟩ | hq
  · have hj7 := hP.1
    have hj8 := hP.2.1
    have hq := q_ix_t hj (n := P.2.1) (by omega)
    have hcl : (nI k).toNatClampNeg = k := nI_clamp (by omega)
    refine z_aload_n hJ d_Mo_kind_0 0 rfl ?_
    refine z_iload_n hJ d_Mo_kind_1 1 rfl ?_
    refine z_callVi hJ (m_Mo_isOne (M := (x0, x1, 127, x3, x4, x5, x6, x7, x8, x9, x10, x11, x12, x13, x14, x15, x16, x17, x18, x19, x20)) hR0) k_Mo_96 zL_mv d_Mo_kind_2 hc_Mo 0 rfl rfl rfl (Nat.le_of_ble_eq_true rfl) ⟨by decide, by decide⟩ ?_
    refine zb_ne hJ d_Mo_kind_5 (fun c_5 => ?_) (fun c_5 => False.elim (by rw [hq] at c_5; exact absurd c_5 (by decide)))
    refine z_aload_n hJ d_Mo_kind_15 0 rfl ?_
    refine z_iload_n hJ d_Mo_kind_16 1 rfl ?_
    refine z_iconst (v := 0) hJ d_Mo_kind_17 (by decide) ?_
    refine z_callVi hJ (m_Mo_its0 (M := (x0, x1, 127, x3, x4, x5, x6, x7, x8, x9, x10, x11, x12, x13, x14, x15, x16, x17, x18, x19, x20)) hR0 (by omega)) k_Mo_76 zL_mv d_Mo_kind_18 hc_Mo 0 rfl rfl rfl (Nat.le_of_ble_eq_true rfl) ⟨by decide, by decide⟩ ?_
    refine z_istore_n (lv' := [(0, _), (1, _), (2, _)]) hJ d_Mo_kind_21 (by decide) rfl ?_
    refine z_iconst (v := 0) hJ d_Mo_kind_22 (by decide) ?_
    refine z_istore_n (lv' := [(0, _), (1, _), (2, _), (3, _)]) hJ d_Mo_kind_23 (by decide) rfl ?_
    refine z_iconst (v := (-1)) hJ d_Mo_kind_24 (by decide) ?_
    refine z_istore (lv' := [(0, _), (1, _), (2, _), (3, _), (4, _)]) hJ d_Mo_kind_25 (by decide) rfl ?_
    refine z_iconst (v := 0) hJ d_Mo_kind_27 (by decide) ?_
    refine z_istore (lv' := [(0, _), (1, _), (2, _), (3, _), (4, _), (5, _)]) hJ d_Mo_kind_28 (by decide) rfl ?_
    have L30 : ∀ j : Nat, j ≤ 6 → ∀ F : Nat → Int32, (∀ v, upd F (3 + 5 * k + 0) v = upd x0 (3 + 5 * k + 0) v) → J (mV g a F x1 127 x3 x4 x5 x6 x7 x8 x9 x10 x11 x12 x13 x14 x15 x16 x17 x18 x19 x20) 30 [(0, .ref (a 0)), (1, .int (nI k)), (2, .int (rk P k)), (3, .int (nI (q_bst (q_eK P k) j).1)), (4, .int (q_bst (q_eK P k) j).2), (5, .int (nI j))] [] := by
      refine zloop (6) (fun j hjN ih => ?_)
      intro F hF
      refine z_iload hJ d_Mo_kind_30 5 rfl ?_
      refine z_iconst (v := 5) hJ d_Mo_kind_32 (by decide) ?_
      refine z_icmp_gt hJ d_Mo_kind_33 (fun c_33 => ?_) (fun c_33 => ?_)
      · skip
        try dsimp only at c_33
        have h_33 : 5 < j := by
          have e := nI_ltI (a := 5) (b := j) (by omega) (by omega)
          exact e.mp c_33
        obtain rfl : j = 6 := by omega
        refine z_aload_n hJ d_Mo_kind_86 0 rfl ?_
        refine z_iload_n hJ d_Mo_kind_87 1 rfl ?_
        refine z_iconst (v := 0) hJ d_Mo_kind_88 (by decide) ?_
        refine z_iload_n hJ d_Mo_kind_89 2 rfl ?_
        refine z_callVv hJ (m_Mo_puts (p := k) (w := 0) (by omega) (by decide)) k_Mo_56 zL_mv d_Mo_kind_90 hc_Mo 0 rfl rfl rfl (Nat.le_of_ble_eq_true rfl) ⟨by decide, by decide⟩ ?_
        refine z_iload_n hJ d_Mo_kind_93 3 rfl ?_
        exact z_ri hR d_Mo_kind_94 (by simp [p_kind, hq, hcl]) (by rw [hF, upd_id (hR0.2.2.2.1 k (by omega)).1]; simp [p_kind, hq, hcl])
      · skip
        try dsimp only at c_33
        have h_33 : ¬ (5 < j) := by
          have e := nI_ltI (a := 5) (b := j) (by omega) (by omega)
          exact fun q => c_33 (e.mpr q)
        refine z_aload_n hJ d_Mo_kind_36 0 rfl ?_
        refine z_iload_n hJ d_Mo_kind_37 1 rfl ?_
        refine z_iconst (v := 0) hJ d_Mo_kind_38 (by decide) ?_
        refine z_iload hJ d_Mo_kind_39 5 rfl ?_
        refine z_callVv hJ (m_Mo_puts (p := k) (w := 0) (by omega) (by decide)) k_Mo_56 zL_mv d_Mo_kind_41 hc_Mo 0 rfl rfl rfl (Nat.le_of_ble_eq_true rfl) ⟨by decide, by decide⟩ ?_
        refine z_aload_n hJ d_Mo_kind_44 0 rfl ?_
        refine z_callVi hJ (m_Mo_earned7 (P := q_setK P k (nI j)) (M := (upd F (3 + 5 * k + 0) (nI j), x1, 127, x3, x4, x5, x6, x7, x8, x9, x10, x11, x12, x13, x14, x15, x16, x17, x18, x19, x20)) (by dsimp only; rw [hF]; exact hR0.setK (nI j) (by omega)) hP (hG.setK ⟨j, by omega, rfl⟩) rfl) k_Mo_135 zL_mv d_Mo_kind_45 hc_Mo 0 rfl rfl rfl (Nat.le_of_ble_eq_true rfl) ⟨by decide, by decide⟩ ?_
        refine z_c (y := q_eK P k j) rfl ?_
        refine z_istore (lv' := [(0, _), (1, _), (2, _), (3, _), (4, _), (5, _), (6, _)]) hJ d_Mo_kind_48 (by decide) rfl ?_
        refine z_iload hJ d_Mo_kind_50 6 rfl ?_
        refine z_iload hJ d_Mo_kind_52 4 rfl ?_
        refine z_icmp_le hJ d_Mo_kind_54 (fun c_54 => ?_) (fun c_54 => ?_)
        · skip
          try dsimp only at c_54
          refine z_iload_n hJ d_Mo_kind_62 3 rfl ?_
          refine z_istore_n (lv' := [(0, _), (1, _), (2, _), (3, _), (4, _), (5, _), (6, _)]) hJ d_Mo_kind_63 (by decide) rfl ?_
          refine z_iload hJ d_Mo_kind_64 6 rfl ?_
          refine z_iload hJ d_Mo_kind_66 4 rfl ?_
          refine z_icmp_le hJ d_Mo_kind_68 (fun c_68 => ?_) (fun c_68 => ?_)
          · skip
            try dsimp only at c_68
            refine z_iload hJ d_Mo_kind_76 4 rfl ?_
            refine z_istore (lv' := [(0, _), (1, _), (2, _), (3, _), (4, _), (5, _), (6, _)]) hJ d_Mo_kind_78 (by decide) rfl ?_
            refine z_iinc (v := nI (j + 1)) (lv' := [(0, _), (1, _), (2, _), (3, _), (4, _), (5, _), (6, _)]) hJ d_Mo_kind_80 5 rfl (zinc _) (by decide) rfl ?_
            refine z_goto hJ d_Mo_kind_83 ?_
            refine z_drop hJ [0, 1, 2, 3, 4, 5] rfl ?_
            have e := ih (by omega) (upd F (3 + 5 * k + 0) (nI j)) (fun v => (upd_upd _ _ _ _).trans (hF v))
            rw [q_bst_f (e := q_eK P k) c_54] at e
            exact e
          · skip
            try dsimp only at c_68
            refine z_iload hJ d_Mo_kind_71 6 rfl ?_
            refine z_goto hJ d_Mo_kind_73 ?_
            refine z_istore (lv' := [(0, _), (1, _), (2, _), (3, _), (4, _), (5, _), (6, _)]) hJ d_Mo_kind_78 (by decide) rfl ?_
            refine z_iinc (v := nI (j + 1)) (lv' := [(0, _), (1, _), (2, _), (3, _), (4, _), (5, _), (6, _)]) hJ d_Mo_kind_80 5 rfl (zinc _) (by decide) rfl ?_
            refine z_goto hJ d_Mo_kind_83 ?_
            refine z_drop hJ [0, 1, 2, 3, 4, 5] rfl ?_
            exact absurd c_54 c_68
        · skip
          try dsimp only at c_54
          refine z_iload hJ d_Mo_kind_57 5 rfl ?_
          refine z_goto hJ d_Mo_kind_59 ?_
          refine z_istore_n (lv' := [(0, _), (1, _), (2, _), (3, _), (4, _), (5, _), (6, _)]) hJ d_Mo_kind_63 (by decide) rfl ?_
          refine z_iload hJ d_Mo_kind_64 6 rfl ?_
          refine z_iload hJ d_Mo_kind_66 4 rfl ?_
          refine z_icmp_le hJ d_Mo_kind_68 (fun c_68 => ?_) (fun c_68 => ?_)
          · skip
            try dsimp only at c_68
            refine z_iload hJ d_Mo_kind_76 4 rfl ?_
            refine z_istore (lv' := [(0, _), (1, _), (2, _), (3, _), (4, _), (5, _), (6, _)]) hJ d_Mo_kind_78 (by decide) rfl ?_
            refine z_iinc (v := nI (j + 1)) (lv' := [(0, _), (1, _), (2, _), (3, _), (4, _), (5, _), (6, _)]) hJ d_Mo_kind_80 5 rfl (zinc _) (by decide) rfl ?_
            refine z_goto hJ d_Mo_kind_83 ?_
            refine z_drop hJ [0, 1, 2, 3, 4, 5] rfl ?_
            exact absurd c_68 c_54
          · skip
            try dsimp only at c_68
            refine z_iload hJ d_Mo_kind_71 6 rfl ?_
            refine z_goto hJ d_Mo_kind_73 ?_
            refine z_istore (lv' := [(0, _), (1, _), (2, _), (3, _), (4, _), (5, _), (6, _)]) hJ d_Mo_kind_78 (by decide) rfl ?_
            refine z_iinc (v := nI (j + 1)) (lv' := [(0, _), (1, _), (2, _), (3, _), (4, _), (5, _), (6, _)]) hJ d_Mo_kind_80 5 rfl (zinc _) (by decide) rfl ?_
            refine z_goto hJ d_Mo_kind_83 ?_
            refine z_drop hJ [0, 1, 2, 3, 4, 5] rfl ?_
            have e := ih (by omega) (upd F (3 + 5 * k + 0) (nI j)) (fun v => (upd_upd _ _ _ _).trans (hF v))
            rw [q_bst_t (e := q_eK P k) c_54] at e
            exact e
    exact L30 0 (Nat.zero_le _) _ (fun v => rfl)
  · skip
    refine z_aload_n hJ d_Mo_kind_0 0 rfl ?_
    refine z_iload_n hJ d_Mo_kind_1 1 rfl ?_
    refine z_callVi hJ (m_Mo_isOne (M := (x0, x1, 127, x3, x4, x5, x6, x7, x8, x9, x10, x11, x12, x13, x14, x15, x16, x17, x18, x19, x20)) hR0) k_Mo_96 zL_mv d_Mo_kind_2 hc_Mo 0 rfl rfl rfl (Nat.le_of_ble_eq_true rfl) ⟨by decide, by decide⟩ ?_
    refine zb_ne hJ d_Mo_kind_5 (fun c_5 => False.elim (by rw [hq] at c_5; exact absurd c_5 (by decide))) (fun c_5 => ?_)
    refine z_aload_n hJ d_Mo_kind_8 0 rfl ?_
    refine z_ldc hJ d_Mo_kind_9 c_Mo_51 ?_
    refine z_callVi hJ m_Mo_finds_0 k_Mo_67 zL_mv d_Mo_kind_11 hc_Mo 0 rfl rfl rfl (Nat.le_of_ble_eq_true rfl) ⟨by decide, by decide⟩ ?_
    exact z_ri hR d_Mo_kind_14 (by simp [p_kind, hq, c_5]; try rfl) (by simp [p_kind, hq, c_5])
