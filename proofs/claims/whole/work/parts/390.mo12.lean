set_option maxRecDepth 100000 in
theorem m_Mo_spoils {g : Nat → Nat → Nat} {a : Nat → Nat} {x0 : Nat → Int32} {x1 : Nat → Int32} {x3 : Nat → Int32} {x4 : Nat → Int32} {x5 : Nat → Int64} {x6 : Nat → Int32} {x7 : Nat} {x8 : Int32} {x9 : Nat} {x10 : Nat} {x11 : Int64} {x12 : Int32} {x13 : Bool} {x14 : Nat → Int32} {x15 : Nat → Int32} {x16 : Nat → Int64} {x17 : Nat → Int64} {x18 : Nat → Int32} {x19 : Nat → Int32} {x20 : Bool} {P : RS}  (hR0 : zRo P x0) (hP : zPi P) (hG : zRg P) : zM g y_Mo_spoils b_Mo_spoils 4 (some .int) 9 [.ref (a 0)] (mV g a x0 x1 127 x3 x4 x5 x6 x7 x8 x9 x10 x11 x12 x13 x14 x15 x16 x17 x18 x19 x20) [.int (nI (q_mask (fun i => !(P.2.2.2.1.testBit i) && decide (¬ q_earn P (q_clr 127 i &&& q_awk P) ≤ q_earn P (q_awk P))) P.2.1))] (mV g a x0 x1 127 x3 x4 x5 x6 x7 x8 x9 x10 x11 x12 x13 x14 x15 x16 x17 x18 x19 x20) := by
  have hj7 := hP.1
  have hj8 := hP.2.1
  refine zMi (lv := [(0, .ref (a 0))]) (by decide) (Nat.le_of_ble_eq_true rfl) rfl (fun J hJ hR => ?_)
  refine z_aload_n hJ d_Mo_spoils_0 0 rfl ?_
  refine z_callVi hJ (m_Mo_earned7 (M := (x0, x1, 127, x3, x4, x5, x6, x7, x8, x9, x10, x11, x12, x13, x14, x15, x16, x17, x18, x19, x20)) hR0 hP hG rfl) k_Mo_135 zL_mv d_Mo_spoils_1 hc_Mo 0 rfl rfl rfl (Nat.le_of_ble_eq_true rfl) ⟨by decide, by decide⟩ ?_
  refine z_istore_n (lv' := [(0, _), (1, _)]) hJ d_Mo_spoils_4 (by decide) rfl ?_
  refine z_iconst (v := 0) hJ d_Mo_spoils_5 (by decide) ?_
  refine z_istore_n (lv' := [(0, _), (1, _), (2, _)]) hJ d_Mo_spoils_6 (by decide) rfl ?_
  refine z_iconst (v := 0) hJ d_Mo_spoils_7 (by decide) ?_
  refine z_istore_n (lv' := [(0, _), (1, _), (2, _), (3, _)]) hJ d_Mo_spoils_8 (by decide) rfl ?_
  have L9 : ∀ j : Nat, j ≤ P.2.1 → J (mV g a x0 x1 127 x3 x4 x5 x6 x7 x8 x9 x10 x11 x12 x13 x14 x15 x16 x17 x18 x19 x20) 9 [(0, .ref (a 0)), (1, .int (q_earn P (q_awk P))), (2, .int (nI (q_mask (fun i => !(P.2.2.2.1.testBit i) && decide (¬ q_earn P (q_clr 127 i &&& q_awk P) ≤ q_earn P (q_awk P))) j))), (3, .int (nI j))] [] := by
    refine zloop (P.2.1) (fun j hjN ih => ?_)
    refine z_iload_n hJ d_Mo_spoils_9 3 rfl ?_
    refine z_aload_n hJ d_Mo_spoils_10 0 rfl ?_
    refine z_get hJ d_Mo_spoils_11 hc_Mo f_Mo_7 0 rfl rfl (by decide) ?_
    refine z_iconst (v := 1) hJ d_Mo_spoils_14 (by decide) ?_
    refine z_iald hJ d_Mo_spoils_15 1 (1) rfl rfl (by decide) (by decide) ?_
    refine z_c (y := nI P.2.1) hR0.2.1 ?_
    refine z_icmp_ge hJ d_Mo_spoils_16 (fun c_16 => ?_) (fun c_16 => ?_)
    · skip
      try dsimp only at c_16
      have h_16 : P.2.1 ≤ j := by
        have e := nI_leI (a := P.2.1) (b := j) (by omega) (by omega)
        exact e.mp c_16
      obtain rfl : j = P.2.1 := by omega
      refine z_iload_n hJ d_Mo_spoils_60 2 rfl ?_
      exact z_ri hR d_Mo_spoils_61 rfl rfl
    · skip
      try dsimp only at c_16
      have h_16 : ¬ (P.2.1 ≤ j) := by
        have e := nI_leI (a := P.2.1) (b := j) (by omega) (by omega)
        exact fun q => c_16 (e.mpr q)
      refine z_iload_n hJ d_Mo_spoils_19 2 rfl ?_
      refine z_aload_n hJ d_Mo_spoils_20 0 rfl ?_
      refine z_iload_n hJ d_Mo_spoils_21 3 rfl ?_
      refine z_iconst (v := 4) hJ d_Mo_spoils_22 (by decide) ?_
      refine z_callVi hJ (m_Mo_its4 (M := (x0, x1, 127, x3, x4, x5, x6, x7, x8, x9, x10, x11, x12, x13, x14, x15, x16, x17, x18, x19, x20)) hR0 (by omega)) k_Mo_76 zL_mv d_Mo_spoils_23 hc_Mo 0 rfl rfl rfl (Nat.le_of_ble_eq_true rfl) ⟨by decide, by decide⟩ ?_
      refine z_if_ne hJ d_Mo_spoils_26 (fun c_26 => ?_) (fun c_26 => ?_)
      · skip
        try dsimp only at c_26
        have hb : P.2.2.2.1.testBit j = true := by
          cases h : P.2.2.2.1.testBit j
          · rw [h] at c_26; exact absurd rfl c_26
          · rfl
        refine z_iconst (v := 0) hJ d_Mo_spoils_51 (by decide) ?_
        refine z_ior hJ d_Mo_spoils_52 ?_
        refine z_c (q_mask_f0 (f := (fun i => !(P.2.2.2.1.testBit i) && decide (¬ q_earn P (q_clr 127 i &&& q_awk P) ≤ q_earn P (q_awk P)))) (by simp [hb])) ?_
        refine z_istore_n (lv' := [(0, _), (1, _), (2, _), (3, _)]) hJ d_Mo_spoils_53 (by decide) rfl ?_
        refine z_iinc (v := nI (j + 1)) (lv' := [(0, _), (1, _), (2, _), (3, _)]) hJ d_Mo_spoils_54 3 rfl (zinc _) (by decide) rfl ?_
        refine z_goto hJ d_Mo_spoils_57 ?_
        exact ih (by omega)
      · skip
        try dsimp only at c_26
        have hb : P.2.2.2.1.testBit j = false := by
          cases h : P.2.2.2.1.testBit j
          · rfl
          · rw [h] at c_26; exact absurd c_26 (by decide)
        refine z_aload_n hJ d_Mo_spoils_29 0 rfl ?_
        refine z_bipush (v := 127) hJ d_Mo_spoils_30 (by decide) ?_
        refine z_iconst (v := 1) hJ d_Mo_spoils_32 (by decide) ?_
        refine z_iload_n hJ d_Mo_spoils_33 3 rfl ?_
        refine z_ishl hJ d_Mo_spoils_34 ?_
        refine z_iconst (v := (-1)) hJ d_Mo_spoils_35 (by decide) ?_
        refine z_ixor hJ d_Mo_spoils_36 ?_
        refine z_iand hJ d_Mo_spoils_37 ?_
        refine z_c (q_clr_e (a := 127) (by omega)) ?_
        have hcr : q_clr 127 j ≤ 127 := Nat.and_le_left
        refine z_callVi hJ (m_Mo_earnedBy (M := (x0, x1, 127, x3, x4, x5, x6, x7, x8, x9, x10, x11, x12, x13, x14, x15, x16, x17, x18, x19, x20)) hR0 hP hG (by omega)) k_Mo_163 zL_mv d_Mo_spoils_38 hc_Mo 0 rfl rfl rfl (Nat.le_of_ble_eq_true rfl) ⟨by decide, by decide⟩ ?_
        refine z_iload_n hJ d_Mo_spoils_41 1 rfl ?_
        refine z_icmp_le hJ d_Mo_spoils_42 (fun c_42 => ?_) (fun c_42 => ?_)
        · skip
          try dsimp only at c_42
          refine z_iconst (v := 0) hJ d_Mo_spoils_51 (by decide) ?_
          refine z_ior hJ d_Mo_spoils_52 ?_
          refine z_c (q_mask_f0 (f := (fun i => !(P.2.2.2.1.testBit i) && decide (¬ q_earn P (q_clr 127 i &&& q_awk P) ≤ q_earn P (q_awk P)))) (by simp [hb, c_42])) ?_
          refine z_istore_n (lv' := [(0, _), (1, _), (2, _), (3, _)]) hJ d_Mo_spoils_53 (by decide) rfl ?_
          refine z_iinc (v := nI (j + 1)) (lv' := [(0, _), (1, _), (2, _), (3, _)]) hJ d_Mo_spoils_54 3 rfl (zinc _) (by decide) rfl ?_
          refine z_goto hJ d_Mo_spoils_57 ?_
          exact ih (by omega)
        · skip
          try dsimp only at c_42
          refine z_iconst (v := 1) hJ d_Mo_spoils_45 (by decide) ?_
          refine z_iload_n hJ d_Mo_spoils_46 3 rfl ?_
          refine z_ishl hJ d_Mo_spoils_47 ?_
          refine z_goto hJ d_Mo_spoils_48 ?_
          refine z_ior hJ d_Mo_spoils_52 ?_
          refine z_c (q_mask_t (f := (fun i => !(P.2.2.2.1.testBit i) && decide (¬ q_earn P (q_clr 127 i &&& q_awk P) ≤ q_earn P (q_awk P)))) (by simp [hb, c_42]) (by omega)) ?_
          refine z_istore_n (lv' := [(0, _), (1, _), (2, _), (3, _)]) hJ d_Mo_spoils_53 (by decide) rfl ?_
          refine z_iinc (v := nI (j + 1)) (lv' := [(0, _), (1, _), (2, _), (3, _)]) hJ d_Mo_spoils_54 3 rfl (zinc _) (by decide) rfl ?_
          refine z_goto hJ d_Mo_spoils_57 ?_
          exact ih (by omega)
  exact L9 0 (Nat.zero_le _)
set_option maxRecDepth 100000 in
theorem m_Mo_wipe {g : Nat → Nat → Nat} {a : Nat → Nat} {x0 : Nat → Int32} {x1 : Nat → Int32} {x3 : Nat → Int32} {x4 : Nat → Int32} {x5 : Nat → Int64} {x6 : Nat → Int32} {x7 : Nat} {x8 : Int32} {x9 : Nat} {x10 : Nat} {x11 : Int64} {x12 : Int32} {x13 : Bool} {x14 : Nat → Int32} {x15 : Nat → Int32} {x16 : Nat → Int64} {x17 : Nat → Int64} {x18 : Nat → Int32} {x19 : Nat → Int32} {x20 : Bool} {P : RS}  (hR0 : zRo P x0) (hP : zPi P) (hG : zRg P) : zM g y_Mo_wipe b_Mo_wipe 2 (some .int) 0 [.ref (a 0)] (mV g a x0 x1 127 x3 x4 x5 x6 x7 x8 x9 x10 x11 x12 x13 x14 x15 x16 x17 x18 x19 x20) [.int (nI x7)] (mV g a x0 x1 127 x3 x4 x5 x6 0 x8 x9 x10 x11 x12 x13 x14 x15 x16 x17 x18 x19 x20) := by
  refine zMi (lv := [(0, .ref (a 0))]) (by decide) (Nat.le_of_ble_eq_true rfl) rfl (fun J hJ hR => ?_)
  refine z_aload_n hJ d_Mo_wipe_0 0 rfl ?_
  refine z_get hJ d_Mo_wipe_1 hc_Mo f_Mo_187 0 rfl rfl (by decide) ?_
  refine z_istore_n (lv' := [(0, _), (1, _)]) hJ d_Mo_wipe_4 (by decide) rfl ?_
  refine z_aload_n hJ d_Mo_wipe_5 0 rfl ?_
  refine z_iconst (v := 0) hJ d_Mo_wipe_6 (by decide) ?_
  refine z_put (w' := mV g a x0 x1 127 x3 x4 x5 x6 0 x8 x9 x10 x11 x12 x13 x14 x15 x16 x17 x18 x19 x20) hJ d_Mo_wipe_7 hc_Mo f_Mo_187 0 rfl rfl rfl rfl (by decide) (Nat.le_of_ble_eq_true rfl) rfl ?_
  refine z_iload_n hJ d_Mo_wipe_10 1 rfl ?_
  exact z_ri hR d_Mo_wipe_11 rfl rfl
set_option maxRecDepth 100000 in
theorem m_Mo_tear {g : Nat → Nat → Nat} {a : Nat → Nat} {x0 : Nat → Int32} {x1 : Nat → Int32} {x3 : Nat → Int32} {x4 : Nat → Int32} {x5 : Nat → Int64} {x6 : Nat → Int32} {x7 : Nat} {x8 : Int32} {x9 : Nat} {x10 : Nat} {x11 : Int64} {x12 : Int32} {x13 : Bool} {x14 : Nat → Int32} {x15 : Nat → Int32} {x16 : Nat → Int64} {x17 : Nat → Int64} {x18 : Nat → Int32} {x19 : Nat → Int32} {x20 : Bool} {P : RS}  (hR0 : zRo P x0) (hP : zPi P) (hG : zRg P) : zM g y_Mo_tear b_Mo_tear 2 (some .int) 0 [.ref (a 0)] (mV g a x0 x1 127 x3 x4 x5 x6 x7 x8 x9 x10 x11 x12 x13 x14 x15 x16 x17 x18 x19 x20) [.int (zB x20)] (mV g a x0 x1 127 x3 x4 x5 x6 x7 x8 x9 x10 x11 x12 x13 x14 x15 x16 x17 x18 x19 false) := by
  refine zMi (lv := [(0, .ref (a 0))]) (by decide) (Nat.le_of_ble_eq_true rfl) rfl (fun J hJ hR => ?_)
  refine z_aload_n hJ d_Mo_tear_0 0 rfl ?_
  refine z_get hJ d_Mo_tear_1 hc_Mo f_Mo_322 0 rfl rfl (by decide) ?_
  refine zb_eq hJ d_Mo_tear_4 (fun c_4 => ?_) (fun c_4 => ?_)
  · skip
    try dsimp only at c_4
    refine z_iconst (v := 0) hJ d_Mo_tear_11 (by decide) ?_
    refine z_istore_n (lv' := [(0, _), (1, _)]) hJ d_Mo_tear_12 (by decide) rfl ?_
    refine z_aload_n hJ d_Mo_tear_13 0 rfl ?_
    refine z_iconst (v := 0) hJ d_Mo_tear_14 (by decide) ?_
    refine z_put (w' := mV g a x0 x1 127 x3 x4 x5 x6 x7 x8 x9 x10 x11 x12 x13 x14 x15 x16 x17 x18 x19 false) hJ d_Mo_tear_15 hc_Mo f_Mo_322 0 rfl rfl rfl rfl (by decide) (Nat.le_of_ble_eq_true rfl) rfl ?_
    refine z_iload_n hJ d_Mo_tear_18 1 rfl ?_
    exact z_ri hR d_Mo_tear_19 (by simp [zB, c_4]) rfl
  · skip
    try dsimp only at c_4
    refine z_iconst (v := 1) hJ d_Mo_tear_7 (by decide) ?_
    refine z_goto hJ d_Mo_tear_8 ?_
    refine z_istore_n (lv' := [(0, _), (1, _)]) hJ d_Mo_tear_12 (by decide) rfl ?_
    refine z_aload_n hJ d_Mo_tear_13 0 rfl ?_
    refine z_iconst (v := 0) hJ d_Mo_tear_14 (by decide) ?_
    refine z_put (w' := mV g a x0 x1 127 x3 x4 x5 x6 x7 x8 x9 x10 x11 x12 x13 x14 x15 x16 x17 x18 x19 false) hJ d_Mo_tear_15 hc_Mo f_Mo_322 0 rfl rfl rfl rfl (by decide) (Nat.le_of_ble_eq_true rfl) rfl ?_
    refine z_iload_n hJ d_Mo_tear_18 1 rfl ?_
    exact z_ri hR d_Mo_tear_19 (by simp [zB, c_4]) rfl
