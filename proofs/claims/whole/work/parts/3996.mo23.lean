set_option maxRecDepth 100000 in
theorem m_Mo_narrow {g : Nat → Nat → Nat} {b : Int32} {v : Int64}  : zM g y_Mo_narrow b_Mo_narrow 3 (some .long) 0 [.int b, .long v] ([]) [.long (q_nar b v)] ([]) := by
  refine zMl (lv := [(0, .int b), (1, .long v)]) (by decide) (Nat.le_of_ble_eq_true rfl) rfl (fun J hJ hR => ?_)
  refine z_iload_n hJ d_Mo_narrow_0 0 rfl ?_
  refine z_bipush (v := 8) hJ d_Mo_narrow_1 (by decide) ?_
  refine z_icmp_ne hJ d_Mo_narrow_3 (fun c_3 => ?_) (fun c_3 => ?_)
  · skip
    refine z_iload_n hJ d_Mo_narrow_16 0 rfl ?_
    refine z_bipush (v := 16) hJ d_Mo_narrow_17 (by decide) ?_
    refine z_icmp_ne hJ d_Mo_narrow_19 (fun c_19 => ?_) (fun c_19 => ?_)
    · skip
      refine z_lload_n hJ d_Mo_narrow_32 1 rfl ?_
      exact z_rl hR d_Mo_narrow_33 (by rw [q_nar, if_neg c_3, if_neg c_19]) rfl
    · skip
      refine z_lload_n hJ d_Mo_narrow_22 1 rfl ?_
      refine z_bipush (v := 48) hJ d_Mo_narrow_23 (by decide) ?_
      refine z_lshl hJ d_Mo_narrow_25 ?_
      refine z_bipush (v := 48) hJ d_Mo_narrow_26 (by decide) ?_
      refine z_lshr hJ d_Mo_narrow_28 ?_
      refine z_goto hJ d_Mo_narrow_29 ?_
      exact z_rl hR d_Mo_narrow_33 (by rw [q_nar, if_neg c_3, if_pos c_19, q_nar16]) rfl
  · skip
    refine z_lload_n hJ d_Mo_narrow_6 1 rfl ?_
    refine z_bipush (v := 56) hJ d_Mo_narrow_7 (by decide) ?_
    refine z_lshl hJ d_Mo_narrow_9 ?_
    refine z_bipush (v := 56) hJ d_Mo_narrow_10 (by decide) ?_
    refine z_lshr hJ d_Mo_narrow_12 ?_
    refine z_goto hJ d_Mo_narrow_13 ?_
    exact z_rl hR d_Mo_narrow_33 (by rw [q_nar, if_pos c_3, q_nar8]) rfl
theorem q_bt_t {b : Int32} (h : b = 0 ∨ b = 8 ∨ b = 16 ∨ b = 64) : q_bt b = true := by
  unfold q_bt
  rcases h with h | h | h | h <;> rw [h] <;> decide
theorem q_bt_f {b : Int32} (h0 : ¬ b = 0) (h1 : ¬ b = 8) (h2 : ¬ b = 16) (h3 : ¬ b = 64) : q_bt b = false := by
  unfold q_bt
  rw [decide_eq_false h0, decide_eq_false h1, decide_eq_false h2, decide_eq_false h3]
  rfl
set_option maxRecDepth 100000 in
theorem m_Mo_sheet {g : Nat → Nat → Nat} {a : Nat → Nat} {x0 : Nat → Int32} {x1 : Nat → Int32} {x3 : Nat → Int32} {x4 : Nat → Int32} {x5 : Nat → Int64} {x6 : Nat → Int32} {x7 : Nat} {x8 : Int32} {x9 : Nat} {x10 : Nat} {x11 : Int64} {x12 : Int32} {x13 : Bool} {x17 : Nat → Int64} {x18 : Nat → Int32} {x19 : Nat → Int32} {x20 : Bool} {ss : Nat → SS} {s b n : Int32}  : zM g y_Mo_sheet b_Mo_sheet 5 (some .int) 2 [.ref (a 0), .int s, .int b, .int n] (mV g a x0 x1 127 x3 x4 x5 x6 x7 x8 x9 x10 x11 x12 x13 (q_b14 ss) (q_b15 ss) (q_b16 ss) x17 x18 x19 x20) [.int (p_sheet x1 ss s b n).1] (mV g a x0 ((p_sheet x1 ss s b n).2.1) 127 x3 x4 x5 x6 x7 x8 x9 x10 x11 x12 x13 (q_b14 (p_sheet x1 ss s b n).2.2) (q_b15 (p_sheet x1 ss s b n).2.2) (q_b16 (p_sheet x1 ss s b n).2.2) x17 x18 x19 x20) := by
  refine zMi (lv := [(0, .ref (a 0)), (1, .int s), (2, .int b), (3, .int n)]) (by decide) (Nat.le_of_ble_eq_true rfl) rfl (fun J hJ hR => ?_)
  rcases q_in_sh s with ⟨k, hk, rfl⟩ | hq
  · have hq := q_in_sh_t hk
    have hcl : (nI k).toNatClampNeg = k := nI_clamp (by omega)
    refine z_iload_n hJ d_Mo_sheet_0 1 rfl ?_
    refine z_callSi hJ m_Mo_isSheet k_Mo_302 zL.nil d_Mo_sheet_1 rfl rfl (Nat.le_of_ble_eq_true rfl) ⟨by decide, by decide⟩ ?_
    refine zb_eq hJ d_Mo_sheet_4 (fun c_4 => False.elim (by rw [hq] at c_4; exact absurd c_4 (by decide))) (fun c_4 => ?_)
    refine z_iload_n hJ d_Mo_sheet_7 2 rfl ?_
    refine z_if_eq hJ d_Mo_sheet_8 (fun c_8 => ?_) (fun c_8 => ?_)
    · skip
      try dsimp only at c_8
      have hb : q_bt b = true := q_bt_t (Or.inl c_8)
      refine z_iload_n hJ d_Mo_sheet_36 3 rfl ?_
      refine z_if_ge hJ d_Mo_sheet_37 (fun c_37 => ?_) (fun c_37 => ?_)
      · skip
        try dsimp only at c_37
        refine z_iload_n hJ d_Mo_sheet_48 3 rfl ?_
        refine z_bipush (v := 40) hJ d_Mo_sheet_49 (by decide) ?_
        refine z_icmp_le hJ d_Mo_sheet_51 (fun c_51 => ?_) (fun c_51 => ?_)
        · skip
          try dsimp only at c_51
          obtain ⟨m, hm, rfl⟩ := nI_of (x := n) (Int32.not_lt.mpr c_37)
          have hcm : (nI m).toNatClampNeg = m := nI_clamp hm
          refine z_aload_n hJ d_Mo_sheet_61 0 rfl ?_
          refine z_get hJ d_Mo_sheet_62 hc_Mo f_Mo_33 0 rfl rfl (by decide) ?_
          refine z_iload_n hJ d_Mo_sheet_65 1 rfl ?_
          refine z_iload_n hJ d_Mo_sheet_66 2 rfl ?_
          refine z_iast (w' := mV g a x0 x1 127 x3 x4 x5 x6 x7 x8 x9 x10 x11 x12 x13 (upd (q_b14 ss) (k) b) (q_b15 ss) (q_b16 ss) x17 x18 x19 x20) hJ d_Mo_sheet_67 7 (k) rfl rfl (by omega) (by decide) rfl ?_
          refine z_aload_n hJ d_Mo_sheet_68 0 rfl ?_
          refine z_get hJ d_Mo_sheet_69 hc_Mo f_Mo_36 0 rfl rfl (by decide) ?_
          refine z_iload_n hJ d_Mo_sheet_72 1 rfl ?_
          refine z_iload_n hJ d_Mo_sheet_73 2 rfl ?_
          refine z_if_ne hJ d_Mo_sheet_74 (fun c_74 => ?_) (fun c_74 => ?_)
          · skip
            try dsimp only at c_74
            refine z_iload_n hJ d_Mo_sheet_81 3 rfl ?_
            refine z_c (y := nI (if b = 0 then 0 else m)) (by rw [if_neg c_74]) ?_
            refine z_iast (w' := mV g a x0 x1 127 x3 x4 x5 x6 x7 x8 x9 x10 x11 x12 x13 (upd (q_b14 ss) (k) b) (upd (q_b15 ss) (k) (nI (if b = 0 then 0 else m))) (q_b16 ss) x17 x18 x19 x20) hJ d_Mo_sheet_82 8 (k) rfl rfl (by omega) (by decide) rfl ?_
            refine z_iconst (v := 0) hJ d_Mo_sheet_83 (by decide) ?_
            refine z_istore (lv' := [(0, _), (1, _), (2, _), (3, _), (4, _)]) hJ d_Mo_sheet_84 (by decide) rfl ?_
            have L86 : ∀ j : Nat, j ≤ 40 → J (mV g a x0 x1 127 x3 x4 x5 x6 x7 x8 x9 x10 x11 x12 x13 (upd (q_b14 ss) k b) (upd (q_b15 ss) k (nI (if b = 0 then 0 else m))) (q_zr (q_b16 ss) k j) x17 x18 x19 x20) 86 [(0, .ref (a 0)), (1, .int (nI k)), (2, .int b), (3, .int (nI m)), (4, .int (nI j))] [] := by
              refine zloop (40) (fun j hjN ih => ?_)
              refine z_iload hJ d_Mo_sheet_86 4 rfl ?_
              refine z_bipush (v := 40) hJ d_Mo_sheet_88 (by decide) ?_
              refine z_icmp_ge hJ d_Mo_sheet_90 (fun c_90 => ?_) (fun c_90 => ?_)
              · skip
                try dsimp only at c_90
                have h_90 : 40 ≤ j := by
                  have e := nI_leI (a := 40) (b := j) (by omega) (by omega)
                  exact e.mp c_90
                have hj40 : j = 40 := by omega
                refine z_aload_n hJ d_Mo_sheet_112 0 rfl ?_
                refine z_get hJ d_Mo_sheet_113 hc_Mo f_Mo_36 0 rfl rfl (by decide) ?_
                refine z_iload_n hJ d_Mo_sheet_116 1 rfl ?_
                refine z_iald hJ d_Mo_sheet_117 8 (k) rfl rfl (by omega) (by decide) ?_
                refine z_c (y := nI (if b = 0 then 0 else m)) (upd_eq _ _ _) ?_
                exact z_ri hR d_Mo_sheet_118 (by
                  have e : (p_sheet x1 ss (nI k) b (nI m)) = (nI (if b = 0 then 0 else m), x1, q_ssU ss k (q_beg b m)) := by simp [p_sheet, hq, hcl, hb, c_37, c_51, hcm]
                  rw [e]) (by
                  have e : (p_sheet x1 ss (nI k) b (nI m)) = (nI (if b = 0 then 0 else m), x1, q_ssU ss k (q_beg b m)) := by simp [p_sheet, hq, hcl, hb, c_37, c_51, hcm]
                  rw [e, hj40, q_zr_40 ss k b m, q_b14_U, q_b15_U]; rfl)
              · skip
                try dsimp only at c_90
                have h_90 : ¬ (40 ≤ j) := by
                  have e := nI_leI (a := 40) (b := j) (by omega) (by omega)
                  exact fun q => c_90 (e.mpr q)
                refine z_aload_n hJ d_Mo_sheet_93 0 rfl ?_
                refine z_get hJ d_Mo_sheet_94 hc_Mo f_Mo_39 0 rfl rfl (by decide) ?_
                refine z_bipush (v := 40) hJ d_Mo_sheet_97 (by decide) ?_
                refine z_iload_n hJ d_Mo_sheet_99 1 rfl ?_
                refine z_imul hJ d_Mo_sheet_100 ?_
                refine z_iload hJ d_Mo_sheet_101 4 rfl ?_
                refine z_iadd hJ d_Mo_sheet_103 ?_
                refine z_c (z40 k j) ?_
                refine z_lconst (v := 0) hJ d_Mo_sheet_104 (by decide) ?_
                refine z_last (w' := mV g a x0 x1 127 x3 x4 x5 x6 x7 x8 x9 x10 x11 x12 x13 (upd (q_b14 ss) k b) (upd (q_b15 ss) k (nI (if b = 0 then 0 else m))) (vp_updL (q_zr (q_b16 ss) k j) ((40 * k + j)) 0) x17 x18 x19 x20) hJ d_Mo_sheet_105 9 ((40 * k + j)) rfl rfl (by omega) (by decide) rfl ?_
                refine z_w (w' := mV g a x0 x1 127 x3 x4 x5 x6 x7 x8 x9 x10 x11 x12 x13 (upd (q_b14 ss) k b) (upd (q_b15 ss) k (nI (if b = 0 then 0 else m))) (q_zr (q_b16 ss) k (j + 1)) x17 x18 x19 x20) (by rw [q_zr_s]) ?_
                refine z_iinc (v := nI (j + 1)) (lv' := [(0, _), (1, _), (2, _), (3, _), (4, _)]) hJ d_Mo_sheet_106 4 rfl (zinc _) (by decide) rfl ?_
                refine z_goto hJ d_Mo_sheet_109 ?_
                exact ih (by omega)
            have e := L86 0 (Nat.zero_le _)
            rw [q_zr_0] at e
            exact e
          · skip
            try dsimp only at c_74
            refine z_iconst (v := 0) hJ d_Mo_sheet_77 (by decide) ?_
            refine z_c (y := nI (if b = 0 then 0 else m)) (by rw [if_pos c_74]; rfl) ?_
            refine z_goto hJ d_Mo_sheet_78 ?_
            refine z_iast (w' := mV g a x0 x1 127 x3 x4 x5 x6 x7 x8 x9 x10 x11 x12 x13 (upd (q_b14 ss) (k) b) (upd (q_b15 ss) (k) (nI (if b = 0 then 0 else m))) (q_b16 ss) x17 x18 x19 x20) hJ d_Mo_sheet_82 8 (k) rfl rfl (by omega) (by decide) rfl ?_
            refine z_iconst (v := 0) hJ d_Mo_sheet_83 (by decide) ?_
            refine z_istore (lv' := [(0, _), (1, _), (2, _), (3, _), (4, _)]) hJ d_Mo_sheet_84 (by decide) rfl ?_
            have L86 : ∀ j : Nat, j ≤ 40 → J (mV g a x0 x1 127 x3 x4 x5 x6 x7 x8 x9 x10 x11 x12 x13 (upd (q_b14 ss) k b) (upd (q_b15 ss) k (nI (if b = 0 then 0 else m))) (q_zr (q_b16 ss) k j) x17 x18 x19 x20) 86 [(0, .ref (a 0)), (1, .int (nI k)), (2, .int b), (3, .int (nI m)), (4, .int (nI j))] [] := by
              refine zloop (40) (fun j hjN ih => ?_)
              refine z_iload hJ d_Mo_sheet_86 4 rfl ?_
              refine z_bipush (v := 40) hJ d_Mo_sheet_88 (by decide) ?_
              refine z_icmp_ge hJ d_Mo_sheet_90 (fun c_90 => ?_) (fun c_90 => ?_)
              · skip
                try dsimp only at c_90
                have h_90 : 40 ≤ j := by
                  have e := nI_leI (a := 40) (b := j) (by omega) (by omega)
                  exact e.mp c_90
                have hj40 : j = 40 := by omega
                refine z_aload_n hJ d_Mo_sheet_112 0 rfl ?_
                refine z_get hJ d_Mo_sheet_113 hc_Mo f_Mo_36 0 rfl rfl (by decide) ?_
                refine z_iload_n hJ d_Mo_sheet_116 1 rfl ?_
                refine z_iald hJ d_Mo_sheet_117 8 (k) rfl rfl (by omega) (by decide) ?_
                refine z_c (y := nI (if b = 0 then 0 else m)) (upd_eq _ _ _) ?_
                exact z_ri hR d_Mo_sheet_118 (by
                  have e : (p_sheet x1 ss (nI k) b (nI m)) = (nI (if b = 0 then 0 else m), x1, q_ssU ss k (q_beg b m)) := by simp [p_sheet, hq, hcl, hb, c_37, c_51, hcm]
                  rw [e]) (by
                  have e : (p_sheet x1 ss (nI k) b (nI m)) = (nI (if b = 0 then 0 else m), x1, q_ssU ss k (q_beg b m)) := by simp [p_sheet, hq, hcl, hb, c_37, c_51, hcm]
                  rw [e, hj40, q_zr_40 ss k b m, q_b14_U, q_b15_U]; rfl)
              · skip
                try dsimp only at c_90
                have h_90 : ¬ (40 ≤ j) := by
                  have e := nI_leI (a := 40) (b := j) (by omega) (by omega)
                  exact fun q => c_90 (e.mpr q)
                refine z_aload_n hJ d_Mo_sheet_93 0 rfl ?_
                refine z_get hJ d_Mo_sheet_94 hc_Mo f_Mo_39 0 rfl rfl (by decide) ?_
                refine z_bipush (v := 40) hJ d_Mo_sheet_97 (by decide) ?_
                refine z_iload_n hJ d_Mo_sheet_99 1 rfl ?_
                refine z_imul hJ d_Mo_sheet_100 ?_
                refine z_iload hJ d_Mo_sheet_101 4 rfl ?_
                refine z_iadd hJ d_Mo_sheet_103 ?_
                refine z_c (z40 k j) ?_
                refine z_lconst (v := 0) hJ d_Mo_sheet_104 (by decide) ?_
                refine z_last (w' := mV g a x0 x1 127 x3 x4 x5 x6 x7 x8 x9 x10 x11 x12 x13 (upd (q_b14 ss) k b) (upd (q_b15 ss) k (nI (if b = 0 then 0 else m))) (vp_updL (q_zr (q_b16 ss) k j) ((40 * k + j)) 0) x17 x18 x19 x20) hJ d_Mo_sheet_105 9 ((40 * k + j)) rfl rfl (by omega) (by decide) rfl ?_
                refine z_w (w' := mV g a x0 x1 127 x3 x4 x5 x6 x7 x8 x9 x10 x11 x12 x13 (upd (q_b14 ss) k b) (upd (q_b15 ss) k (nI (if b = 0 then 0 else m))) (q_zr (q_b16 ss) k (j + 1)) x17 x18 x19 x20) (by rw [q_zr_s]) ?_
                refine z_iinc (v := nI (j + 1)) (lv' := [(0, _), (1, _), (2, _), (3, _), (4, _)]) hJ d_Mo_sheet_106 4 rfl (zinc _) (by decide) rfl ?_
                refine z_goto hJ d_Mo_sheet_109 ?_
                exact ih (by omega)
            have e := L86 0 (Nat.zero_le _)
            rw [q_zr_0] at e
            exact e
        · skip
          try dsimp only at c_51
          refine z_aload_n hJ d_Mo_sheet_54 0 rfl ?_
          refine z_ldc hJ d_Mo_sheet_55 c_Mo_51 ?_
          refine z_callVi hJ m_Mo_finds_0 k_Mo_67 zL_mv d_Mo_sheet_57 hc_Mo 0 rfl rfl rfl (Nat.le_of_ble_eq_true rfl) ⟨by decide, by decide⟩ ?_
          exact z_ri hR d_Mo_sheet_60 (by simp [p_sheet, hq, hb, c_37, c_51]) (by simp [p_sheet, hq, hb, c_37, c_51])
      · skip
        try dsimp only at c_37
        refine z_aload_n hJ d_Mo_sheet_40 0 rfl ?_
        refine z_ldcw hJ d_Mo_sheet_41 c_Mo_305 ?_
        refine z_callVi hJ m_Mo_finds_6 k_Mo_67 zL_mv d_Mo_sheet_44 hc_Mo 0 rfl rfl rfl (Nat.le_of_ble_eq_true rfl) ⟨by decide, by decide⟩ ?_
        exact z_ri hR d_Mo_sheet_47 (by simp [p_sheet, hq, hb, c_37]) (by simp [p_sheet, hq, hb, c_37])
    · skip
      try dsimp only at c_8
      refine z_iload_n hJ d_Mo_sheet_11 2 rfl ?_
      refine z_bipush (v := 8) hJ d_Mo_sheet_12 (by decide) ?_
      refine z_icmp_eq hJ d_Mo_sheet_14 (fun c_14 => ?_) (fun c_14 => ?_)
      · skip
        try dsimp only at c_14
        have hb : q_bt b = true := q_bt_t (Or.inr (Or.inl c_14))
        refine z_iload_n hJ d_Mo_sheet_36 3 rfl ?_
        refine z_if_ge hJ d_Mo_sheet_37 (fun c_37 => ?_) (fun c_37 => ?_)
        · skip
          try dsimp only at c_37
          refine z_iload_n hJ d_Mo_sheet_48 3 rfl ?_
          refine z_bipush (v := 40) hJ d_Mo_sheet_49 (by decide) ?_
          refine z_icmp_le hJ d_Mo_sheet_51 (fun c_51 => ?_) (fun c_51 => ?_)
          · skip
            try dsimp only at c_51
            obtain ⟨m, hm, rfl⟩ := nI_of (x := n) (Int32.not_lt.mpr c_37)
            have hcm : (nI m).toNatClampNeg = m := nI_clamp hm
            refine z_aload_n hJ d_Mo_sheet_61 0 rfl ?_
            refine z_get hJ d_Mo_sheet_62 hc_Mo f_Mo_33 0 rfl rfl (by decide) ?_
            refine z_iload_n hJ d_Mo_sheet_65 1 rfl ?_
            refine z_iload_n hJ d_Mo_sheet_66 2 rfl ?_
            refine z_iast (w' := mV g a x0 x1 127 x3 x4 x5 x6 x7 x8 x9 x10 x11 x12 x13 (upd (q_b14 ss) (k) b) (q_b15 ss) (q_b16 ss) x17 x18 x19 x20) hJ d_Mo_sheet_67 7 (k) rfl rfl (by omega) (by decide) rfl ?_
            refine z_aload_n hJ d_Mo_sheet_68 0 rfl ?_
            refine z_get hJ d_Mo_sheet_69 hc_Mo f_Mo_36 0 rfl rfl (by decide) ?_
            refine z_iload_n hJ d_Mo_sheet_72 1 rfl ?_
            refine z_iload_n hJ d_Mo_sheet_73 2 rfl ?_
            refine z_if_ne hJ d_Mo_sheet_74 (fun c_74 => ?_) (fun c_74 => ?_)
            · skip
              try dsimp only at c_74
              refine z_iload_n hJ d_Mo_sheet_81 3 rfl ?_
              refine z_c (y := nI (if b = 0 then 0 else m)) (by rw [if_neg c_74]) ?_
              refine z_iast (w' := mV g a x0 x1 127 x3 x4 x5 x6 x7 x8 x9 x10 x11 x12 x13 (upd (q_b14 ss) (k) b) (upd (q_b15 ss) (k) (nI (if b = 0 then 0 else m))) (q_b16 ss) x17 x18 x19 x20) hJ d_Mo_sheet_82 8 (k) rfl rfl (by omega) (by decide) rfl ?_
              refine z_iconst (v := 0) hJ d_Mo_sheet_83 (by decide) ?_
              refine z_istore (lv' := [(0, _), (1, _), (2, _), (3, _), (4, _)]) hJ d_Mo_sheet_84 (by decide) rfl ?_
              have L86 : ∀ j : Nat, j ≤ 40 → J (mV g a x0 x1 127 x3 x4 x5 x6 x7 x8 x9 x10 x11 x12 x13 (upd (q_b14 ss) k b) (upd (q_b15 ss) k (nI (if b = 0 then 0 else m))) (q_zr (q_b16 ss) k j) x17 x18 x19 x20) 86 [(0, .ref (a 0)), (1, .int (nI k)), (2, .int b), (3, .int (nI m)), (4, .int (nI j))] [] := by
                refine zloop (40) (fun j hjN ih => ?_)
                refine z_iload hJ d_Mo_sheet_86 4 rfl ?_
                refine z_bipush (v := 40) hJ d_Mo_sheet_88 (by decide) ?_
                refine z_icmp_ge hJ d_Mo_sheet_90 (fun c_90 => ?_) (fun c_90 => ?_)
                · skip
                  try dsimp only at c_90
                  have h_90 : 40 ≤ j := by
                    have e := nI_leI (a := 40) (b := j) (by omega) (by omega)
                    exact e.mp c_90
                  have hj40 : j = 40 := by omega
                  refine z_aload_n hJ d_Mo_sheet_112 0 rfl ?_
                  refine z_get hJ d_Mo_sheet_113 hc_Mo f_Mo_36 0 rfl rfl (by decide) ?_
                  refine z_iload_n hJ d_Mo_sheet_116 1 rfl ?_
                  refine z_iald hJ d_Mo_sheet_117 8 (k) rfl rfl (by omega) (by decide) ?_
                  refine z_c (y := nI (if b = 0 then 0 else m)) (upd_eq _ _ _) ?_
                  exact z_ri hR d_Mo_sheet_118 (by
                    have e : (p_sheet x1 ss (nI k) b (nI m)) = (nI (if b = 0 then 0 else m), x1, q_ssU ss k (q_beg b m)) := by simp [p_sheet, hq, hcl, hb, c_37, c_51, hcm]
                    rw [e]) (by
                    have e : (p_sheet x1 ss (nI k) b (nI m)) = (nI (if b = 0 then 0 else m), x1, q_ssU ss k (q_beg b m)) := by simp [p_sheet, hq, hcl, hb, c_37, c_51, hcm]
                    rw [e, hj40, q_zr_40 ss k b m, q_b14_U, q_b15_U]; rfl)
                · skip
                  try dsimp only at c_90
                  have h_90 : ¬ (40 ≤ j) := by
                    have e := nI_leI (a := 40) (b := j) (by omega) (by omega)
                    exact fun q => c_90 (e.mpr q)
                  refine z_aload_n hJ d_Mo_sheet_93 0 rfl ?_
                  refine z_get hJ d_Mo_sheet_94 hc_Mo f_Mo_39 0 rfl rfl (by decide) ?_
                  refine z_bipush (v := 40) hJ d_Mo_sheet_97 (by decide) ?_
                  refine z_iload_n hJ d_Mo_sheet_99 1 rfl ?_
                  refine z_imul hJ d_Mo_sheet_100 ?_
                  refine z_iload hJ d_Mo_sheet_101 4 rfl ?_
                  refine z_iadd hJ d_Mo_sheet_103 ?_
                  refine z_c (z40 k j) ?_
                  refine z_lconst (v := 0) hJ d_Mo_sheet_104 (by decide) ?_
                  refine z_last (w' := mV g a x0 x1 127 x3 x4 x5 x6 x7 x8 x9 x10 x11 x12 x13 (upd (q_b14 ss) k b) (upd (q_b15 ss) k (nI (if b = 0 then 0 else m))) (vp_updL (q_zr (q_b16 ss) k j) ((40 * k + j)) 0) x17 x18 x19 x20) hJ d_Mo_sheet_105 9 ((40 * k + j)) rfl rfl (by omega) (by decide) rfl ?_
                  refine z_w (w' := mV g a x0 x1 127 x3 x4 x5 x6 x7 x8 x9 x10 x11 x12 x13 (upd (q_b14 ss) k b) (upd (q_b15 ss) k (nI (if b = 0 then 0 else m))) (q_zr (q_b16 ss) k (j + 1)) x17 x18 x19 x20) (by rw [q_zr_s]) ?_
                  refine z_iinc (v := nI (j + 1)) (lv' := [(0, _), (1, _), (2, _), (3, _), (4, _)]) hJ d_Mo_sheet_106 4 rfl (zinc _) (by decide) rfl ?_
                  refine z_goto hJ d_Mo_sheet_109 ?_
                  exact ih (by omega)
              have e := L86 0 (Nat.zero_le _)
              rw [q_zr_0] at e
              exact e
            · skip
              try dsimp only at c_74
              refine z_iconst (v := 0) hJ d_Mo_sheet_77 (by decide) ?_
              refine z_c (y := nI (if b = 0 then 0 else m)) (by rw [if_pos c_74]; rfl) ?_
              refine z_goto hJ d_Mo_sheet_78 ?_
              refine z_iast (w' := mV g a x0 x1 127 x3 x4 x5 x6 x7 x8 x9 x10 x11 x12 x13 (upd (q_b14 ss) (k) b) (upd (q_b15 ss) (k) (nI (if b = 0 then 0 else m))) (q_b16 ss) x17 x18 x19 x20) hJ d_Mo_sheet_82 8 (k) rfl rfl (by omega) (by decide) rfl ?_
              refine z_iconst (v := 0) hJ d_Mo_sheet_83 (by decide) ?_
              refine z_istore (lv' := [(0, _), (1, _), (2, _), (3, _), (4, _)]) hJ d_Mo_sheet_84 (by decide) rfl ?_
              have L86 : ∀ j : Nat, j ≤ 40 → J (mV g a x0 x1 127 x3 x4 x5 x6 x7 x8 x9 x10 x11 x12 x13 (upd (q_b14 ss) k b) (upd (q_b15 ss) k (nI (if b = 0 then 0 else m))) (q_zr (q_b16 ss) k j) x17 x18 x19 x20) 86 [(0, .ref (a 0)), (1, .int (nI k)), (2, .int b), (3, .int (nI m)), (4, .int (nI j))] [] := by
                refine zloop (40) (fun j hjN ih => ?_)
                refine z_iload hJ d_Mo_sheet_86 4 rfl ?_
                refine z_bipush (v := 40) hJ d_Mo_sheet_88 (by decide) ?_
                refine z_icmp_ge hJ d_Mo_sheet_90 (fun c_90 => ?_) (fun c_90 => ?_)
                · skip
                  try dsimp only at c_90
                  have h_90 : 40 ≤ j := by
                    have e := nI_leI (a := 40) (b := j) (by omega) (by omega)
                    exact e.mp c_90
                  have hj40 : j = 40 := by omega
                  refine z_aload_n hJ d_Mo_sheet_112 0 rfl ?_
                  refine z_get hJ d_Mo_sheet_113 hc_Mo f_Mo_36 0 rfl rfl (by decide) ?_
                  refine z_iload_n hJ d_Mo_sheet_116 1 rfl ?_
                  refine z_iald hJ d_Mo_sheet_117 8 (k) rfl rfl (by omega) (by decide) ?_
                  refine z_c (y := nI (if b = 0 then 0 else m)) (upd_eq _ _ _) ?_
                  exact z_ri hR d_Mo_sheet_118 (by
                    have e : (p_sheet x1 ss (nI k) b (nI m)) = (nI (if b = 0 then 0 else m), x1, q_ssU ss k (q_beg b m)) := by simp [p_sheet, hq, hcl, hb, c_37, c_51, hcm]
                    rw [e]) (by
                    have e : (p_sheet x1 ss (nI k) b (nI m)) = (nI (if b = 0 then 0 else m), x1, q_ssU ss k (q_beg b m)) := by simp [p_sheet, hq, hcl, hb, c_37, c_51, hcm]
                    rw [e, hj40, q_zr_40 ss k b m, q_b14_U, q_b15_U]; rfl)
                · skip
                  try dsimp only at c_90
                  have h_90 : ¬ (40 ≤ j) := by
                    have e := nI_leI (a := 40) (b := j) (by omega) (by omega)
                    exact fun q => c_90 (e.mpr q)
                  refine z_aload_n hJ d_Mo_sheet_93 0 rfl ?_
                  refine z_get hJ d_Mo_sheet_94 hc_Mo f_Mo_39 0 rfl rfl (by decide) ?_
                  refine z_bipush (v := 40) hJ d_Mo_sheet_97 (by decide) ?_
                  refine z_iload_n hJ d_Mo_sheet_99 1 rfl ?_
                  refine z_imul hJ d_Mo_sheet_100 ?_
                  refine z_iload hJ d_Mo_sheet_101 4 rfl ?_
                  refine z_iadd hJ d_Mo_sheet_103 ?_
                  refine z_c (z40 k j) ?_
                  refine z_lconst (v := 0) hJ d_Mo_sheet_104 (by decide) ?_
                  refine z_last (w' := mV g a x0 x1 127 x3 x4 x5 x6 x7 x8 x9 x10 x11 x12 x13 (upd (q_b14 ss) k b) (upd (q_b15 ss) k (nI (if b = 0 then 0 else m))) (vp_updL (q_zr (q_b16 ss) k j) ((40 * k + j)) 0) x17 x18 x19 x20) hJ d_Mo_sheet_105 9 ((40 * k + j)) rfl rfl (by omega) (by decide) rfl ?_
                  refine z_w (w' := mV g a x0 x1 127 x3 x4 x5 x6 x7 x8 x9 x10 x11 x12 x13 (upd (q_b14 ss) k b) (upd (q_b15 ss) k (nI (if b = 0 then 0 else m))) (q_zr (q_b16 ss) k (j + 1)) x17 x18 x19 x20) (by rw [q_zr_s]) ?_
                  refine z_iinc (v := nI (j + 1)) (lv' := [(0, _), (1, _), (2, _), (3, _), (4, _)]) hJ d_Mo_sheet_106 4 rfl (zinc _) (by decide) rfl ?_
                  refine z_goto hJ d_Mo_sheet_109 ?_
                  exact ih (by omega)
              have e := L86 0 (Nat.zero_le _)
              rw [q_zr_0] at e
              exact e
          · skip
            try dsimp only at c_51
            refine z_aload_n hJ d_Mo_sheet_54 0 rfl ?_
            refine z_ldc hJ d_Mo_sheet_55 c_Mo_51 ?_
            refine z_callVi hJ m_Mo_finds_0 k_Mo_67 zL_mv d_Mo_sheet_57 hc_Mo 0 rfl rfl rfl (Nat.le_of_ble_eq_true rfl) ⟨by decide, by decide⟩ ?_
            exact z_ri hR d_Mo_sheet_60 (by simp [p_sheet, hq, hb, c_37, c_51]) (by simp [p_sheet, hq, hb, c_37, c_51])
        · skip
          try dsimp only at c_37
          refine z_aload_n hJ d_Mo_sheet_40 0 rfl ?_
          refine z_ldcw hJ d_Mo_sheet_41 c_Mo_305 ?_
          refine z_callVi hJ m_Mo_finds_6 k_Mo_67 zL_mv d_Mo_sheet_44 hc_Mo 0 rfl rfl rfl (Nat.le_of_ble_eq_true rfl) ⟨by decide, by decide⟩ ?_
          exact z_ri hR d_Mo_sheet_47 (by simp [p_sheet, hq, hb, c_37]) (by simp [p_sheet, hq, hb, c_37])
      · skip
        try dsimp only at c_14
        refine z_iload_n hJ d_Mo_sheet_17 2 rfl ?_
        refine z_bipush (v := 16) hJ d_Mo_sheet_18 (by decide) ?_
        refine z_icmp_eq hJ d_Mo_sheet_20 (fun c_20 => ?_) (fun c_20 => ?_)
        · skip
          try dsimp only at c_20
          have hb : q_bt b = true := q_bt_t (Or.inr (Or.inr (Or.inl c_20)))
          refine z_iload_n hJ d_Mo_sheet_36 3 rfl ?_
          refine z_if_ge hJ d_Mo_sheet_37 (fun c_37 => ?_) (fun c_37 => ?_)
          · skip
            try dsimp only at c_37
            refine z_iload_n hJ d_Mo_sheet_48 3 rfl ?_
            refine z_bipush (v := 40) hJ d_Mo_sheet_49 (by decide) ?_
            refine z_icmp_le hJ d_Mo_sheet_51 (fun c_51 => ?_) (fun c_51 => ?_)
            · skip
              try dsimp only at c_51
              obtain ⟨m, hm, rfl⟩ := nI_of (x := n) (Int32.not_lt.mpr c_37)
              have hcm : (nI m).toNatClampNeg = m := nI_clamp hm
              refine z_aload_n hJ d_Mo_sheet_61 0 rfl ?_
              refine z_get hJ d_Mo_sheet_62 hc_Mo f_Mo_33 0 rfl rfl (by decide) ?_
              refine z_iload_n hJ d_Mo_sheet_65 1 rfl ?_
              refine z_iload_n hJ d_Mo_sheet_66 2 rfl ?_
              refine z_iast (w' := mV g a x0 x1 127 x3 x4 x5 x6 x7 x8 x9 x10 x11 x12 x13 (upd (q_b14 ss) (k) b) (q_b15 ss) (q_b16 ss) x17 x18 x19 x20) hJ d_Mo_sheet_67 7 (k) rfl rfl (by omega) (by decide) rfl ?_
              refine z_aload_n hJ d_Mo_sheet_68 0 rfl ?_
              refine z_get hJ d_Mo_sheet_69 hc_Mo f_Mo_36 0 rfl rfl (by decide) ?_
              refine z_iload_n hJ d_Mo_sheet_72 1 rfl ?_
              refine z_iload_n hJ d_Mo_sheet_73 2 rfl ?_
              refine z_if_ne hJ d_Mo_sheet_74 (fun c_74 => ?_) (fun c_74 => ?_)
              · skip
                try dsimp only at c_74
                refine z_iload_n hJ d_Mo_sheet_81 3 rfl ?_
                refine z_c (y := nI (if b = 0 then 0 else m)) (by rw [if_neg c_74]) ?_
                refine z_iast (w' := mV g a x0 x1 127 x3 x4 x5 x6 x7 x8 x9 x10 x11 x12 x13 (upd (q_b14 ss) (k) b) (upd (q_b15 ss) (k) (nI (if b = 0 then 0 else m))) (q_b16 ss) x17 x18 x19 x20) hJ d_Mo_sheet_82 8 (k) rfl rfl (by omega) (by decide) rfl ?_
                refine z_iconst (v := 0) hJ d_Mo_sheet_83 (by decide) ?_
                refine z_istore (lv' := [(0, _), (1, _), (2, _), (3, _), (4, _)]) hJ d_Mo_sheet_84 (by decide) rfl ?_
                have L86 : ∀ j : Nat, j ≤ 40 → J (mV g a x0 x1 127 x3 x4 x5 x6 x7 x8 x9 x10 x11 x12 x13 (upd (q_b14 ss) k b) (upd (q_b15 ss) k (nI (if b = 0 then 0 else m))) (q_zr (q_b16 ss) k j) x17 x18 x19 x20) 86 [(0, .ref (a 0)), (1, .int (nI k)), (2, .int b), (3, .int (nI m)), (4, .int (nI j))] [] := by
                  refine zloop (40) (fun j hjN ih => ?_)
                  refine z_iload hJ d_Mo_sheet_86 4 rfl ?_
                  refine z_bipush (v := 40) hJ d_Mo_sheet_88 (by decide) ?_
                  refine z_icmp_ge hJ d_Mo_sheet_90 (fun c_90 => ?_) (fun c_90 => ?_)
                  · skip
                    try dsimp only at c_90
                    have h_90 : 40 ≤ j := by
                      have e := nI_leI (a := 40) (b := j) (by omega) (by omega)
                      exact e.mp c_90
                    have hj40 : j = 40 := by omega
                    refine z_aload_n hJ d_Mo_sheet_112 0 rfl ?_
                    refine z_get hJ d_Mo_sheet_113 hc_Mo f_Mo_36 0 rfl rfl (by decide) ?_
                    refine z_iload_n hJ d_Mo_sheet_116 1 rfl ?_
                    refine z_iald hJ d_Mo_sheet_117 8 (k) rfl rfl (by omega) (by decide) ?_
                    refine z_c (y := nI (if b = 0 then 0 else m)) (upd_eq _ _ _) ?_
                    exact z_ri hR d_Mo_sheet_118 (by
                      have e : (p_sheet x1 ss (nI k) b (nI m)) = (nI (if b = 0 then 0 else m), x1, q_ssU ss k (q_beg b m)) := by simp [p_sheet, hq, hcl, hb, c_37, c_51, hcm]
                      rw [e]) (by
                      have e : (p_sheet x1 ss (nI k) b (nI m)) = (nI (if b = 0 then 0 else m), x1, q_ssU ss k (q_beg b m)) := by simp [p_sheet, hq, hcl, hb, c_37, c_51, hcm]
                      rw [e, hj40, q_zr_40 ss k b m, q_b14_U, q_b15_U]; rfl)
                  · skip
                    try dsimp only at c_90
                    have h_90 : ¬ (40 ≤ j) := by
                      have e := nI_leI (a := 40) (b := j) (by omega) (by omega)
                      exact fun q => c_90 (e.mpr q)
                    refine z_aload_n hJ d_Mo_sheet_93 0 rfl ?_
                    refine z_get hJ d_Mo_sheet_94 hc_Mo f_Mo_39 0 rfl rfl (by decide) ?_
                    refine z_bipush (v := 40) hJ d_Mo_sheet_97 (by decide) ?_
                    refine z_iload_n hJ d_Mo_sheet_99 1 rfl ?_
                    refine z_imul hJ d_Mo_sheet_100 ?_
                    refine z_iload hJ d_Mo_sheet_101 4 rfl ?_
                    refine z_iadd hJ d_Mo_sheet_103 ?_
                    refine z_c (z40 k j) ?_
                    refine z_lconst (v := 0) hJ d_Mo_sheet_104 (by decide) ?_
                    refine z_last (w' := mV g a x0 x1 127 x3 x4 x5 x6 x7 x8 x9 x10 x11 x12 x13 (upd (q_b14 ss) k b) (upd (q_b15 ss) k (nI (if b = 0 then 0 else m))) (vp_updL (q_zr (q_b16 ss) k j) ((40 * k + j)) 0) x17 x18 x19 x20) hJ d_Mo_sheet_105 9 ((40 * k + j)) rfl rfl (by omega) (by decide) rfl ?_
                    refine z_w (w' := mV g a x0 x1 127 x3 x4 x5 x6 x7 x8 x9 x10 x11 x12 x13 (upd (q_b14 ss) k b) (upd (q_b15 ss) k (nI (if b = 0 then 0 else m))) (q_zr (q_b16 ss) k (j + 1)) x17 x18 x19 x20) (by rw [q_zr_s]) ?_
                    refine z_iinc (v := nI (j + 1)) (lv' := [(0, _), (1, _), (2, _), (3, _), (4, _)]) hJ d_Mo_sheet_106 4 rfl (zinc _) (by decide) rfl ?_
                    refine z_goto hJ d_Mo_sheet_109 ?_
                    exact ih (by omega)
                have e := L86 0 (Nat.zero_le _)
                rw [q_zr_0] at e
                exact e
              · skip
                try dsimp only at c_74
                refine z_iconst (v := 0) hJ d_Mo_sheet_77 (by decide) ?_
                refine z_c (y := nI (if b = 0 then 0 else m)) (by rw [if_pos c_74]; rfl) ?_
                refine z_goto hJ d_Mo_sheet_78 ?_
                refine z_iast (w' := mV g a x0 x1 127 x3 x4 x5 x6 x7 x8 x9 x10 x11 x12 x13 (upd (q_b14 ss) (k) b) (upd (q_b15 ss) (k) (nI (if b = 0 then 0 else m))) (q_b16 ss) x17 x18 x19 x20) hJ d_Mo_sheet_82 8 (k) rfl rfl (by omega) (by decide) rfl ?_
                refine z_iconst (v := 0) hJ d_Mo_sheet_83 (by decide) ?_
                refine z_istore (lv' := [(0, _), (1, _), (2, _), (3, _), (4, _)]) hJ d_Mo_sheet_84 (by decide) rfl ?_
                have L86 : ∀ j : Nat, j ≤ 40 → J (mV g a x0 x1 127 x3 x4 x5 x6 x7 x8 x9 x10 x11 x12 x13 (upd (q_b14 ss) k b) (upd (q_b15 ss) k (nI (if b = 0 then 0 else m))) (q_zr (q_b16 ss) k j) x17 x18 x19 x20) 86 [(0, .ref (a 0)), (1, .int (nI k)), (2, .int b), (3, .int (nI m)), (4, .int (nI j))] [] := by
                  refine zloop (40) (fun j hjN ih => ?_)
                  refine z_iload hJ d_Mo_sheet_86 4 rfl ?_
                  refine z_bipush (v := 40) hJ d_Mo_sheet_88 (by decide) ?_
                  refine z_icmp_ge hJ d_Mo_sheet_90 (fun c_90 => ?_) (fun c_90 => ?_)
                  · skip
                    try dsimp only at c_90
                    have h_90 : 40 ≤ j := by
                      have e := nI_leI (a := 40) (b := j) (by omega) (by omega)
                      exact e.mp c_90
                    have hj40 : j = 40 := by omega
                    refine z_aload_n hJ d_Mo_sheet_112 0 rfl ?_
                    refine z_get hJ d_Mo_sheet_113 hc_Mo f_Mo_36 0 rfl rfl (by decide) ?_
                    refine z_iload_n hJ d_Mo_sheet_116 1 rfl ?_
                    refine z_iald hJ d_Mo_sheet_117 8 (k) rfl rfl (by omega) (by decide) ?_
                    refine z_c (y := nI (if b = 0 then 0 else m)) (upd_eq _ _ _) ?_
                    exact z_ri hR d_Mo_sheet_118 (by
                      have e : (p_sheet x1 ss (nI k) b (nI m)) = (nI (if b = 0 then 0 else m), x1, q_ssU ss k (q_beg b m)) := by simp [p_sheet, hq, hcl, hb, c_37, c_51, hcm]
                      rw [e]) (by
                      have e : (p_sheet x1 ss (nI k) b (nI m)) = (nI (if b = 0 then 0 else m), x1, q_ssU ss k (q_beg b m)) := by simp [p_sheet, hq, hcl, hb, c_37, c_51, hcm]
                      rw [e, hj40, q_zr_40 ss k b m, q_b14_U, q_b15_U]; rfl)
                  · skip
                    try dsimp only at c_90
                    have h_90 : ¬ (40 ≤ j) := by
                      have e := nI_leI (a := 40) (b := j) (by omega) (by omega)
                      exact fun q => c_90 (e.mpr q)
                    refine z_aload_n hJ d_Mo_sheet_93 0 rfl ?_
                    refine z_get hJ d_Mo_sheet_94 hc_Mo f_Mo_39 0 rfl rfl (by decide) ?_
                    refine z_bipush (v := 40) hJ d_Mo_sheet_97 (by decide) ?_
                    refine z_iload_n hJ d_Mo_sheet_99 1 rfl ?_
                    refine z_imul hJ d_Mo_sheet_100 ?_
                    refine z_iload hJ d_Mo_sheet_101 4 rfl ?_
                    refine z_iadd hJ d_Mo_sheet_103 ?_
                    refine z_c (z40 k j) ?_
                    refine z_lconst (v := 0) hJ d_Mo_sheet_104 (by decide) ?_
                    refine z_last (w' := mV g a x0 x1 127 x3 x4 x5 x6 x7 x8 x9 x10 x11 x12 x13 (upd (q_b14 ss) k b) (upd (q_b15 ss) k (nI (if b = 0 then 0 else m))) (vp_updL (q_zr (q_b16 ss) k j) ((40 * k + j)) 0) x17 x18 x19 x20) hJ d_Mo_sheet_105 9 ((40 * k + j)) rfl rfl (by omega) (by decide) rfl ?_
                    refine z_w (w' := mV g a x0 x1 127 x3 x4 x5 x6 x7 x8 x9 x10 x11 x12 x13 (upd (q_b14 ss) k b) (upd (q_b15 ss) k (nI (if b = 0 then 0 else m))) (q_zr (q_b16 ss) k (j + 1)) x17 x18 x19 x20) (by rw [q_zr_s]) ?_
                    refine z_iinc (v := nI (j + 1)) (lv' := [(0, _), (1, _), (2, _), (3, _), (4, _)]) hJ d_Mo_sheet_106 4 rfl (zinc _) (by decide) rfl ?_
                    refine z_goto hJ d_Mo_sheet_109 ?_
                    exact ih (by omega)
                have e := L86 0 (Nat.zero_le _)
                rw [q_zr_0] at e
                exact e
            · skip
              try dsimp only at c_51
              refine z_aload_n hJ d_Mo_sheet_54 0 rfl ?_
              refine z_ldc hJ d_Mo_sheet_55 c_Mo_51 ?_
              refine z_callVi hJ m_Mo_finds_0 k_Mo_67 zL_mv d_Mo_sheet_57 hc_Mo 0 rfl rfl rfl (Nat.le_of_ble_eq_true rfl) ⟨by decide, by decide⟩ ?_
              exact z_ri hR d_Mo_sheet_60 (by simp [p_sheet, hq, hb, c_37, c_51]) (by simp [p_sheet, hq, hb, c_37, c_51])
          · skip
            try dsimp only at c_37
            refine z_aload_n hJ d_Mo_sheet_40 0 rfl ?_
            refine z_ldcw hJ d_Mo_sheet_41 c_Mo_305 ?_
            refine z_callVi hJ m_Mo_finds_6 k_Mo_67 zL_mv d_Mo_sheet_44 hc_Mo 0 rfl rfl rfl (Nat.le_of_ble_eq_true rfl) ⟨by decide, by decide⟩ ?_
            exact z_ri hR d_Mo_sheet_47 (by simp [p_sheet, hq, hb, c_37]) (by simp [p_sheet, hq, hb, c_37])
        · skip
          try dsimp only at c_20
          refine z_iload_n hJ d_Mo_sheet_23 2 rfl ?_
          refine z_bipush (v := 64) hJ d_Mo_sheet_24 (by decide) ?_
          refine z_icmp_eq hJ d_Mo_sheet_26 (fun c_26 => ?_) (fun c_26 => ?_)
          · skip
            try dsimp only at c_26
            have hb : q_bt b = true := q_bt_t (Or.inr (Or.inr (Or.inr c_26)))
            refine z_iload_n hJ d_Mo_sheet_36 3 rfl ?_
            refine z_if_ge hJ d_Mo_sheet_37 (fun c_37 => ?_) (fun c_37 => ?_)
            · skip
              try dsimp only at c_37
              refine z_iload_n hJ d_Mo_sheet_48 3 rfl ?_
              refine z_bipush (v := 40) hJ d_Mo_sheet_49 (by decide) ?_
              refine z_icmp_le hJ d_Mo_sheet_51 (fun c_51 => ?_) (fun c_51 => ?_)
              · skip
                try dsimp only at c_51
                obtain ⟨m, hm, rfl⟩ := nI_of (x := n) (Int32.not_lt.mpr c_37)
                have hcm : (nI m).toNatClampNeg = m := nI_clamp hm
                refine z_aload_n hJ d_Mo_sheet_61 0 rfl ?_
                refine z_get hJ d_Mo_sheet_62 hc_Mo f_Mo_33 0 rfl rfl (by decide) ?_
                refine z_iload_n hJ d_Mo_sheet_65 1 rfl ?_
                refine z_iload_n hJ d_Mo_sheet_66 2 rfl ?_
                refine z_iast (w' := mV g a x0 x1 127 x3 x4 x5 x6 x7 x8 x9 x10 x11 x12 x13 (upd (q_b14 ss) (k) b) (q_b15 ss) (q_b16 ss) x17 x18 x19 x20) hJ d_Mo_sheet_67 7 (k) rfl rfl (by omega) (by decide) rfl ?_
                refine z_aload_n hJ d_Mo_sheet_68 0 rfl ?_
                refine z_get hJ d_Mo_sheet_69 hc_Mo f_Mo_36 0 rfl rfl (by decide) ?_
                refine z_iload_n hJ d_Mo_sheet_72 1 rfl ?_
                refine z_iload_n hJ d_Mo_sheet_73 2 rfl ?_
                refine z_if_ne hJ d_Mo_sheet_74 (fun c_74 => ?_) (fun c_74 => ?_)
                · skip
                  try dsimp only at c_74
                  refine z_iload_n hJ d_Mo_sheet_81 3 rfl ?_
                  refine z_c (y := nI (if b = 0 then 0 else m)) (by rw [if_neg c_74]) ?_
                  refine z_iast (w' := mV g a x0 x1 127 x3 x4 x5 x6 x7 x8 x9 x10 x11 x12 x13 (upd (q_b14 ss) (k) b) (upd (q_b15 ss) (k) (nI (if b = 0 then 0 else m))) (q_b16 ss) x17 x18 x19 x20) hJ d_Mo_sheet_82 8 (k) rfl rfl (by omega) (by decide) rfl ?_
                  refine z_iconst (v := 0) hJ d_Mo_sheet_83 (by decide) ?_
                  refine z_istore (lv' := [(0, _), (1, _), (2, _), (3, _), (4, _)]) hJ d_Mo_sheet_84 (by decide) rfl ?_
                  have L86 : ∀ j : Nat, j ≤ 40 → J (mV g a x0 x1 127 x3 x4 x5 x6 x7 x8 x9 x10 x11 x12 x13 (upd (q_b14 ss) k b) (upd (q_b15 ss) k (nI (if b = 0 then 0 else m))) (q_zr (q_b16 ss) k j) x17 x18 x19 x20) 86 [(0, .ref (a 0)), (1, .int (nI k)), (2, .int b), (3, .int (nI m)), (4, .int (nI j))] [] := by
                    refine zloop (40) (fun j hjN ih => ?_)
                    refine z_iload hJ d_Mo_sheet_86 4 rfl ?_
                    refine z_bipush (v := 40) hJ d_Mo_sheet_88 (by decide) ?_
                    refine z_icmp_ge hJ d_Mo_sheet_90 (fun c_90 => ?_) (fun c_90 => ?_)
                    · skip
                      try dsimp only at c_90
                      have h_90 : 40 ≤ j := by
                        have e := nI_leI (a := 40) (b := j) (by omega) (by omega)
                        exact e.mp c_90
                      have hj40 : j = 40 := by omega
                      refine z_aload_n hJ d_Mo_sheet_112 0 rfl ?_
                      refine z_get hJ d_Mo_sheet_113 hc_Mo f_Mo_36 0 rfl rfl (by decide) ?_
                      refine z_iload_n hJ d_Mo_sheet_116 1 rfl ?_
                      refine z_iald hJ d_Mo_sheet_117 8 (k) rfl rfl (by omega) (by decide) ?_
                      refine z_c (y := nI (if b = 0 then 0 else m)) (upd_eq _ _ _) ?_
                      exact z_ri hR d_Mo_sheet_118 (by
                        have e : (p_sheet x1 ss (nI k) b (nI m)) = (nI (if b = 0 then 0 else m), x1, q_ssU ss k (q_beg b m)) := by simp [p_sheet, hq, hcl, hb, c_37, c_51, hcm]
                        rw [e]) (by
                        have e : (p_sheet x1 ss (nI k) b (nI m)) = (nI (if b = 0 then 0 else m), x1, q_ssU ss k (q_beg b m)) := by simp [p_sheet, hq, hcl, hb, c_37, c_51, hcm]
                        rw [e, hj40, q_zr_40 ss k b m, q_b14_U, q_b15_U]; rfl)
                    · skip
                      try dsimp only at c_90
                      have h_90 : ¬ (40 ≤ j) := by
                        have e := nI_leI (a := 40) (b := j) (by omega) (by omega)
                        exact fun q => c_90 (e.mpr q)
                      refine z_aload_n hJ d_Mo_sheet_93 0 rfl ?_
                      refine z_get hJ d_Mo_sheet_94 hc_Mo f_Mo_39 0 rfl rfl (by decide) ?_
                      refine z_bipush (v := 40) hJ d_Mo_sheet_97 (by decide) ?_
                      refine z_iload_n hJ d_Mo_sheet_99 1 rfl ?_
                      refine z_imul hJ d_Mo_sheet_100 ?_
                      refine z_iload hJ d_Mo_sheet_101 4 rfl ?_
                      refine z_iadd hJ d_Mo_sheet_103 ?_
                      refine z_c (z40 k j) ?_
                      refine z_lconst (v := 0) hJ d_Mo_sheet_104 (by decide) ?_
                      refine z_last (w' := mV g a x0 x1 127 x3 x4 x5 x6 x7 x8 x9 x10 x11 x12 x13 (upd (q_b14 ss) k b) (upd (q_b15 ss) k (nI (if b = 0 then 0 else m))) (vp_updL (q_zr (q_b16 ss) k j) ((40 * k + j)) 0) x17 x18 x19 x20) hJ d_Mo_sheet_105 9 ((40 * k + j)) rfl rfl (by omega) (by decide) rfl ?_
                      refine z_w (w' := mV g a x0 x1 127 x3 x4 x5 x6 x7 x8 x9 x10 x11 x12 x13 (upd (q_b14 ss) k b) (upd (q_b15 ss) k (nI (if b = 0 then 0 else m))) (q_zr (q_b16 ss) k (j + 1)) x17 x18 x19 x20) (by rw [q_zr_s]) ?_
                      refine z_iinc (v := nI (j + 1)) (lv' := [(0, _), (1, _), (2, _), (3, _), (4, _)]) hJ d_Mo_sheet_106 4 rfl (zinc _) (by decide) rfl ?_
                      refine z_goto hJ d_Mo_sheet_109 ?_
                      exact ih (by omega)
                  have e := L86 0 (Nat.zero_le _)
                  rw [q_zr_0] at e
                  exact e
                · skip
                  try dsimp only at c_74
                  refine z_iconst (v := 0) hJ d_Mo_sheet_77 (by decide) ?_
                  refine z_c (y := nI (if b = 0 then 0 else m)) (by rw [if_pos c_74]; rfl) ?_
                  refine z_goto hJ d_Mo_sheet_78 ?_
                  refine z_iast (w' := mV g a x0 x1 127 x3 x4 x5 x6 x7 x8 x9 x10 x11 x12 x13 (upd (q_b14 ss) (k) b) (upd (q_b15 ss) (k) (nI (if b = 0 then 0 else m))) (q_b16 ss) x17 x18 x19 x20) hJ d_Mo_sheet_82 8 (k) rfl rfl (by omega) (by decide) rfl ?_
                  refine z_iconst (v := 0) hJ d_Mo_sheet_83 (by decide) ?_
                  refine z_istore (lv' := [(0, _), (1, _), (2, _), (3, _), (4, _)]) hJ d_Mo_sheet_84 (by decide) rfl ?_
                  have L86 : ∀ j : Nat, j ≤ 40 → J (mV g a x0 x1 127 x3 x4 x5 x6 x7 x8 x9 x10 x11 x12 x13 (upd (q_b14 ss) k b) (upd (q_b15 ss) k (nI (if b = 0 then 0 else m))) (q_zr (q_b16 ss) k j) x17 x18 x19 x20) 86 [(0, .ref (a 0)), (1, .int (nI k)), (2, .int b), (3, .int (nI m)), (4, .int (nI j))] [] := by
                    refine zloop (40) (fun j hjN ih => ?_)
                    refine z_iload hJ d_Mo_sheet_86 4 rfl ?_
                    refine z_bipush (v := 40) hJ d_Mo_sheet_88 (by decide) ?_
                    refine z_icmp_ge hJ d_Mo_sheet_90 (fun c_90 => ?_) (fun c_90 => ?_)
                    · skip
                      try dsimp only at c_90
                      have h_90 : 40 ≤ j := by
                        have e := nI_leI (a := 40) (b := j) (by omega) (by omega)
                        exact e.mp c_90
                      have hj40 : j = 40 := by omega
                      refine z_aload_n hJ d_Mo_sheet_112 0 rfl ?_
                      refine z_get hJ d_Mo_sheet_113 hc_Mo f_Mo_36 0 rfl rfl (by decide) ?_
                      refine z_iload_n hJ d_Mo_sheet_116 1 rfl ?_
                      refine z_iald hJ d_Mo_sheet_117 8 (k) rfl rfl (by omega) (by decide) ?_
                      refine z_c (y := nI (if b = 0 then 0 else m)) (upd_eq _ _ _) ?_
                      exact z_ri hR d_Mo_sheet_118 (by
                        have e : (p_sheet x1 ss (nI k) b (nI m)) = (nI (if b = 0 then 0 else m), x1, q_ssU ss k (q_beg b m)) := by simp [p_sheet, hq, hcl, hb, c_37, c_51, hcm]
                        rw [e]) (by
                        have e : (p_sheet x1 ss (nI k) b (nI m)) = (nI (if b = 0 then 0 else m), x1, q_ssU ss k (q_beg b m)) := by simp [p_sheet, hq, hcl, hb, c_37, c_51, hcm]
                        rw [e, hj40, q_zr_40 ss k b m, q_b14_U, q_b15_U]; rfl)
                    · skip
                      try dsimp only at c_90
                      have h_90 : ¬ (40 ≤ j) := by
                        have e := nI_leI (a := 40) (b := j) (by omega) (by omega)
                        exact fun q => c_90 (e.mpr q)
                      refine z_aload_n hJ d_Mo_sheet_93 0 rfl ?_
                      refine z_get hJ d_Mo_sheet_94 hc_Mo f_Mo_39 0 rfl rfl (by decide) ?_
                      refine z_bipush (v := 40) hJ d_Mo_sheet_97 (by decide) ?_
                      refine z_iload_n hJ d_Mo_sheet_99 1 rfl ?_
                      refine z_imul hJ d_Mo_sheet_100 ?_
                      refine z_iload hJ d_Mo_sheet_101 4 rfl ?_
                      refine z_iadd hJ d_Mo_sheet_103 ?_
                      refine z_c (z40 k j) ?_
                      refine z_lconst (v := 0) hJ d_Mo_sheet_104 (by decide) ?_
                      refine z_last (w' := mV g a x0 x1 127 x3 x4 x5 x6 x7 x8 x9 x10 x11 x12 x13 (upd (q_b14 ss) k b) (upd (q_b15 ss) k (nI (if b = 0 then 0 else m))) (vp_updL (q_zr (q_b16 ss) k j) ((40 * k + j)) 0) x17 x18 x19 x20) hJ d_Mo_sheet_105 9 ((40 * k + j)) rfl rfl (by omega) (by decide) rfl ?_
                      refine z_w (w' := mV g a x0 x1 127 x3 x4 x5 x6 x7 x8 x9 x10 x11 x12 x13 (upd (q_b14 ss) k b) (upd (q_b15 ss) k (nI (if b = 0 then 0 else m))) (q_zr (q_b16 ss) k (j + 1)) x17 x18 x19 x20) (by rw [q_zr_s]) ?_
                      refine z_iinc (v := nI (j + 1)) (lv' := [(0, _), (1, _), (2, _), (3, _), (4, _)]) hJ d_Mo_sheet_106 4 rfl (zinc _) (by decide) rfl ?_
                      refine z_goto hJ d_Mo_sheet_109 ?_
                      exact ih (by omega)
                  have e := L86 0 (Nat.zero_le _)
                  rw [q_zr_0] at e
                  exact e
              · skip
                try dsimp only at c_51
                refine z_aload_n hJ d_Mo_sheet_54 0 rfl ?_
                refine z_ldc hJ d_Mo_sheet_55 c_Mo_51 ?_
                refine z_callVi hJ m_Mo_finds_0 k_Mo_67 zL_mv d_Mo_sheet_57 hc_Mo 0 rfl rfl rfl (Nat.le_of_ble_eq_true rfl) ⟨by decide, by decide⟩ ?_
                exact z_ri hR d_Mo_sheet_60 (by simp [p_sheet, hq, hb, c_37, c_51]) (by simp [p_sheet, hq, hb, c_37, c_51])
            · skip
              try dsimp only at c_37
              refine z_aload_n hJ d_Mo_sheet_40 0 rfl ?_
              refine z_ldcw hJ d_Mo_sheet_41 c_Mo_305 ?_
              refine z_callVi hJ m_Mo_finds_6 k_Mo_67 zL_mv d_Mo_sheet_44 hc_Mo 0 rfl rfl rfl (Nat.le_of_ble_eq_true rfl) ⟨by decide, by decide⟩ ?_
              exact z_ri hR d_Mo_sheet_47 (by simp [p_sheet, hq, hb, c_37]) (by simp [p_sheet, hq, hb, c_37])
          · skip
            try dsimp only at c_26
            refine z_aload_n hJ d_Mo_sheet_29 0 rfl ?_
            refine z_ldc hJ d_Mo_sheet_30 c_Mo_51 ?_
            refine z_callVi hJ m_Mo_finds_0 k_Mo_67 zL_mv d_Mo_sheet_32 hc_Mo 0 rfl rfl rfl (Nat.le_of_ble_eq_true rfl) ⟨by decide, by decide⟩ ?_
            exact z_ri hR d_Mo_sheet_35 (by simp [p_sheet, hq, q_bt_f c_8 c_14 c_20 c_26]) (by simp [p_sheet, hq, q_bt_f c_8 c_14 c_20 c_26])
  · skip
    refine z_iload_n hJ d_Mo_sheet_0 1 rfl ?_
    refine z_callSi hJ m_Mo_isSheet k_Mo_302 zL.nil d_Mo_sheet_1 rfl rfl (Nat.le_of_ble_eq_true rfl) ⟨by decide, by decide⟩ ?_
    refine zb_eq hJ d_Mo_sheet_4 (fun c_4 => ?_) (fun c_4 => False.elim (by rw [hq] at c_4; exact absurd c_4 (by decide)))
    refine z_aload_n hJ d_Mo_sheet_29 0 rfl ?_
    refine z_ldc hJ d_Mo_sheet_30 c_Mo_51 ?_
    refine z_callVi hJ m_Mo_finds_0 k_Mo_67 zL_mv d_Mo_sheet_32 hc_Mo 0 rfl rfl rfl (Nat.le_of_ble_eq_true rfl) ⟨by decide, by decide⟩ ?_
    exact z_ri hR d_Mo_sheet_35 (by simp [p_sheet, hq, c_4]; try rfl) (by simp [p_sheet, hq, c_4])
