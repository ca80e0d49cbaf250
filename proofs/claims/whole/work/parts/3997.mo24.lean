theorem q_b16_u (ss : Nat → SS) (k : Nat) {m : Nat} (hm : m < 40) (v : Int64) : vp_updL (q_b16 ss) (40 * k + m) v = q_b16 (q_ssU ss k ((ss k).1, (ss k).2.1, vp_updL (ss k).2.2 m v)) := by
  have e := q_b16_w ss k (ss k).1 (ss k).2.1 (ss k).2.2 hm v
  rw [show ((ss k).1, (ss k).2.1, (ss k).2.2) = ss k from rfl, q_ssU_id] at e
  exact e
set_option maxRecDepth 100000 in
theorem m_Mo_write {g : Nat → Nat → Nat} {a : Nat → Nat} {x0 : Nat → Int32} {x1 : Nat → Int32} {x3 : Nat → Int32} {x4 : Nat → Int32} {x5 : Nat → Int64} {x6 : Nat → Int32} {x7 : Nat} {x8 : Int32} {x9 : Nat} {x10 : Nat} {x11 : Int64} {x12 : Int32} {x13 : Bool} {x17 : Nat → Int64} {x18 : Nat → Int32} {x19 : Nat → Int32} {x20 : Bool} {ss : Nat → SS} {s i : Int32} {v : Int64} (hss : ∀ k, k < 4 → (ss k).2.1 ≤ 40) : zM g y_Mo_write b_Mo_write 7 (some .long) 2 [.ref (a 0), .int s, .int i, .long v] (mV g a x0 x1 127 x3 x4 x5 x6 x7 x8 x9 x10 x11 x12 x13 (q_b14 ss) (q_b15 ss) (q_b16 ss) x17 x18 x19 x20) [.long (p_write x1 ss s i v).1] (mV g a x0 ((p_write x1 ss s i v).2.1) 127 x3 x4 x5 x6 x7 x8 x9 x10 x11 x12 x13 (q_b14 (p_write x1 ss s i v).2.2) (q_b15 (p_write x1 ss s i v).2.2) (q_b16 (p_write x1 ss s i v).2.2) x17 x18 x19 x20) := by
  refine zMl (lv := [(0, .ref (a 0)), (1, .int s), (2, .int i), (3, .long v)]) (by decide) (Nat.le_of_ble_eq_true rfl) rfl (fun J hJ hR => ?_)
  rcases q_in_sh s with ⟨k, hk, rfl⟩ | hq
  · have hq := q_in_sh_t hk
    have hcl : (nI k).toNatClampNeg = k := nI_clamp (by omega)
    have hsk := hss k hk
    refine z_iload_n hJ d_Mo_write_0 1 rfl ?_
    refine z_callSi hJ m_Mo_isSheet k_Mo_302 zL.nil d_Mo_write_1 rfl rfl (Nat.le_of_ble_eq_true rfl) ⟨by decide, by decide⟩ ?_
    refine zb_ne hJ d_Mo_write_4 (fun c_4 => ?_) (fun c_4 => False.elim (by rw [hq] at c_4; exact absurd c_4 (by decide)))
    refine z_aload_n hJ d_Mo_write_15 0 rfl ?_
    refine z_get hJ d_Mo_write_16 hc_Mo f_Mo_33 0 rfl rfl (by decide) ?_
    refine z_iload_n hJ d_Mo_write_19 1 rfl ?_
    refine z_iald hJ d_Mo_write_20 7 (k) rfl rfl (by omega) (by decide) ?_
    refine z_c (y := (ss k).1) rfl ?_
    refine z_if_ne hJ d_Mo_write_21 (fun c_21 => ?_) (fun c_21 => ?_)
    · skip
      try dsimp only at c_21
      refine z_iload_n hJ d_Mo_write_33 2 rfl ?_
      refine z_iconst (v := 0) hJ d_Mo_write_34 (by decide) ?_
      refine z_aload_n hJ d_Mo_write_35 0 rfl ?_
      refine z_get hJ d_Mo_write_36 hc_Mo f_Mo_36 0 rfl rfl (by decide) ?_
      refine z_iload_n hJ d_Mo_write_39 1 rfl ?_
      refine z_iald hJ d_Mo_write_40 8 (k) rfl rfl (by omega) (by decide) ?_
      refine z_c (y := nI (ss k).2.1) rfl ?_
      refine z_iconst (v := 1) hJ d_Mo_write_41 (by decide) ?_
      refine z_isub hJ d_Mo_write_42 ?_
      refine z_callSi hJ m_Mo_in k_Mo_52 zL.nil d_Mo_write_43 rfl rfl (Nat.le_of_ble_eq_true rfl) ⟨by decide, by decide⟩ ?_
      refine zb_ne hJ d_Mo_write_46 (fun c_46 => ?_) (fun c_46 => ?_)
      · skip
        try dsimp only at c_46
        obtain ⟨m, hm, rfl⟩ := q_in_nat (Nat.le_trans hsk (by decide)) c_46
        have hcm : (nI m).toNatClampNeg = m := nI_clamp (by omega)
        refine z_aload_n hJ d_Mo_write_57 0 rfl ?_
        refine z_get hJ d_Mo_write_58 hc_Mo f_Mo_39 0 rfl rfl (by decide) ?_
        refine z_bipush (v := 40) hJ d_Mo_write_61 (by decide) ?_
        refine z_iload_n hJ d_Mo_write_63 1 rfl ?_
        refine z_imul hJ d_Mo_write_64 ?_
        refine z_iload_n hJ d_Mo_write_65 2 rfl ?_
        refine z_iadd hJ d_Mo_write_66 ?_
        refine z_c (z40 k m) ?_
        refine z_lald hJ d_Mo_write_67 9 (40 * k + m) rfl rfl (by omega) (by decide) ?_
        refine z_cl (y := (ss k).2.2 m) (q_b16_at ss (by omega)) ?_
        refine z_lstore (lv' := [(0, _), (1, _), (2, _), (3, _), (5, _)]) hJ d_Mo_write_68 (by decide) rfl ?_
        refine z_aload_n hJ d_Mo_write_70 0 rfl ?_
        refine z_get hJ d_Mo_write_71 hc_Mo f_Mo_39 0 rfl rfl (by decide) ?_
        refine z_bipush (v := 40) hJ d_Mo_write_74 (by decide) ?_
        refine z_iload_n hJ d_Mo_write_76 1 rfl ?_
        refine z_imul hJ d_Mo_write_77 ?_
        refine z_iload_n hJ d_Mo_write_78 2 rfl ?_
        refine z_iadd hJ d_Mo_write_79 ?_
        refine z_c (z40 k m) ?_
        refine z_aload_n hJ d_Mo_write_80 0 rfl ?_
        refine z_get hJ d_Mo_write_81 hc_Mo f_Mo_33 0 rfl rfl (by decide) ?_
        refine z_iload_n hJ d_Mo_write_84 1 rfl ?_
        refine z_iald hJ d_Mo_write_85 7 (k) rfl rfl (by omega) (by decide) ?_
        refine z_c (y := (ss k).1) rfl ?_
        refine z_lload_n hJ d_Mo_write_86 3 rfl ?_
        refine z_callSl hJ m_Mo_narrow k_Mo_307 zL.nil d_Mo_write_87 rfl rfl (Nat.le_of_ble_eq_true rfl) ⟨by decide, by decide⟩ ?_
        refine z_last (w' := mV g a x0 x1 127 x3 x4 x5 x6 x7 x8 x9 x10 x11 x12 x13 (q_b14 ss) (q_b15 ss) (vp_updL (q_b16 ss) ((40 * k + m)) (q_nar (ss k).1 v)) x17 x18 x19 x20) hJ d_Mo_write_90 9 ((40 * k + m)) rfl rfl (by omega) (by decide) rfl ?_
        refine z_w (w' := mV g a x0 x1 127 x3 x4 x5 x6 x7 x8 x9 x10 x11 x12 x13 (q_b14 ss) (q_b15 ss) (q_b16 (q_ssU ss k ((ss k).1, (ss k).2.1, vp_updL (ss k).2.2 m (q_nar (ss k).1 v)))) x17 x18 x19 x20) (by rw [q_b16_u ss k (show m < 40 by omega)]) ?_
        refine z_lload hJ d_Mo_write_91 4 rfl ?_
        exact z_rl hR d_Mo_write_93 (by simp [p_write, hq, hcl, c_21, c_46, hcm]) (by
          have e : (p_write x1 ss (nI k) (nI m) v) = ((ss k).2.2 m, x1, (q_ssU ss k ((ss k).1, (ss k).2.1, vp_updL (ss k).2.2 m (q_nar (ss k).1 v)))) := by simp [p_write, hq, hcl, c_21, c_46, hcm]
          rw [e, q_b14_s, q_b15_s])
      · skip
        try dsimp only at c_46
        refine z_aload_n hJ d_Mo_write_49 0 rfl ?_
        refine z_ldc hJ d_Mo_write_50 c_Mo_51 ?_
        refine z_callVi hJ m_Mo_finds_0 k_Mo_67 zL_mv d_Mo_write_52 hc_Mo 0 rfl rfl rfl (Nat.le_of_ble_eq_true rfl) ⟨by decide, by decide⟩ ?_
        refine z_i2l hJ d_Mo_write_55 ?_
        exact z_rl hR d_Mo_write_56 (by simp [p_write, hq, hcl, c_21, c_46]) (by simp [p_write, hq, hcl, c_21, c_46])
    · skip
      try dsimp only at c_21
      refine z_aload_n hJ d_Mo_write_24 0 rfl ?_
      refine z_ldcw hJ d_Mo_write_25 c_Mo_306 ?_
      refine z_callVi hJ m_Mo_finds_5 k_Mo_67 zL_mv d_Mo_write_28 hc_Mo 0 rfl rfl rfl (Nat.le_of_ble_eq_true rfl) ⟨by decide, by decide⟩ ?_
      refine z_i2l hJ d_Mo_write_31 ?_
      exact z_rl hR d_Mo_write_32 (by simp [p_write, hq, hcl, c_21]) (by simp [p_write, hq, hcl, c_21])
  · skip
    refine z_iload_n hJ d_Mo_write_0 1 rfl ?_
    refine z_callSi hJ m_Mo_isSheet k_Mo_302 zL.nil d_Mo_write_1 rfl rfl (Nat.le_of_ble_eq_true rfl) ⟨by decide, by decide⟩ ?_
    refine zb_ne hJ d_Mo_write_4 (fun c_4 => False.elim (by rw [hq] at c_4; exact absurd c_4 (by decide))) (fun c_4 => ?_)
    refine z_aload_n hJ d_Mo_write_7 0 rfl ?_
    refine z_ldc hJ d_Mo_write_8 c_Mo_51 ?_
    refine z_callVi hJ m_Mo_finds_0 k_Mo_67 zL_mv d_Mo_write_10 hc_Mo 0 rfl rfl rfl (Nat.le_of_ble_eq_true rfl) ⟨by decide, by decide⟩ ?_
    refine z_i2l hJ d_Mo_write_13 ?_
    exact z_rl hR d_Mo_write_14 (by simp [p_write, hq, c_4]; try rfl) (by simp [p_write, hq, c_4])
set_option maxRecDepth 100000 in
theorem m_Mo_isPart {g : Nat → Nat → Nat} {a : Nat → Nat} {x0 : Nat → Int32} {x1 : Nat → Int32} {x3 : Nat → Int32} {x4 : Nat → Int32} {x5 : Nat → Int64} {x6 : Nat → Int32} {x7 : Nat} {x8 : Int32} {x9 : Nat} {x10 : Nat} {x11 : Int64} {x12 : Int32} {x13 : Bool} {x17 : Nat → Int64} {x18 : Nat → Int32} {x19 : Nat → Int32} {x20 : Bool} {ss : Nat → SS} {k : Nat} {fr n : Int32} (hss : ∀ k, k < 4 → (ss k).2.1 ≤ 40) (hk : k < 4) : zM g y_Mo_isPart b_Mo_isPart 4 (some .boolean) 0 [.ref (a 0), .int (nI k), .int fr, .int n] (mV g a x0 x1 127 x3 x4 x5 x6 x7 x8 x9 x10 x11 x12 x13 (q_b14 ss) (q_b15 ss) (q_b16 ss) x17 x18 x19 x20) [.int (zB (q_holds (ss k) fr n))] (mV g a x0 x1 127 x3 x4 x5 x6 x7 x8 x9 x10 x11 x12 x13 (q_b14 ss) (q_b15 ss) (q_b16 ss) x17 x18 x19 x20) := by
  have hsk := hss k hk
  refine zMz (lv := [(0, .ref (a 0)), (1, .int (nI k)), (2, .int fr), (3, .int n)]) (by decide) (Nat.le_of_ble_eq_true rfl) rfl (fun J hJ hR => ?_)
  refine z_iload_n hJ d_Mo_isPart_0 2 rfl ?_
  refine z_if_lt hJ d_Mo_isPart_1 (fun c_1 => ?_) (fun c_1 => ?_)
  · skip
    try dsimp only at c_1
    refine z_iconst (v := 0) hJ d_Mo_isPart_34 (by decide) ?_
    exact z_ri hR d_Mo_isPart_35 (by unfold q_holds; rw [decide_eq_true c_1]; rfl) rfl
  · skip
    try dsimp only at c_1
    refine z_iload_n hJ d_Mo_isPart_4 3 rfl ?_
    refine z_if_lt hJ d_Mo_isPart_5 (fun c_5 => ?_) (fun c_5 => ?_)
    · skip
      try dsimp only at c_5
      refine z_iconst (v := 0) hJ d_Mo_isPart_34 (by decide) ?_
      exact z_ri hR d_Mo_isPart_35 (by unfold q_holds; rw [decide_eq_true c_5]; simp; rfl) rfl
    · skip
      try dsimp only at c_5
      obtain ⟨p, hp, rfl⟩ := nI_of c_1
      obtain ⟨q, hq, rfl⟩ := nI_of c_5
      refine z_iload_n hJ d_Mo_isPart_8 3 rfl ?_
      refine z_aload_n hJ d_Mo_isPart_9 0 rfl ?_
      refine z_get hJ d_Mo_isPart_10 hc_Mo f_Mo_36 0 rfl rfl (by decide) ?_
      refine z_iload_n hJ d_Mo_isPart_13 1 rfl ?_
      refine z_iald hJ d_Mo_isPart_14 8 (k) rfl rfl (by omega) (by decide) ?_
      refine z_c (y := nI (ss k).2.1) rfl ?_
      refine z_icmp_gt hJ d_Mo_isPart_15 (fun c_15 => ?_) (fun c_15 => ?_)
      · skip
        try dsimp only at c_15
        have h_15 : (ss k).2.1 < q := by
          have e := nI_ltI (a := (ss k).2.1) (b := q) (by omega) (by omega)
          exact e.mp c_15
        refine z_iconst (v := 0) hJ d_Mo_isPart_34 (by decide) ?_
        exact z_ri hR d_Mo_isPart_35 (by rw [q_holds_m hsk hp hq, decide_eq_false (by omega)]; rfl) rfl
      · skip
        try dsimp only at c_15
        have h_15 : ¬ ((ss k).2.1 < q) := by
          have e := nI_ltI (a := (ss k).2.1) (b := q) (by omega) (by omega)
          exact fun q => c_15 (e.mpr q)
        refine z_iload_n hJ d_Mo_isPart_18 2 rfl ?_
        refine z_aload_n hJ d_Mo_isPart_19 0 rfl ?_
        refine z_get hJ d_Mo_isPart_20 hc_Mo f_Mo_36 0 rfl rfl (by decide) ?_
        refine z_iload_n hJ d_Mo_isPart_23 1 rfl ?_
        refine z_iald hJ d_Mo_isPart_24 8 (k) rfl rfl (by omega) (by decide) ?_
        refine z_c (y := nI (ss k).2.1) rfl ?_
        refine z_iload_n hJ d_Mo_isPart_25 3 rfl ?_
        refine z_isub hJ d_Mo_isPart_26 ?_
        refine z_c (y := nI ((ss k).2.1 - q)) (pk_sub (by omega)) ?_
        refine z_icmp_gt hJ d_Mo_isPart_27 (fun c_27 => ?_) (fun c_27 => ?_)
        · skip
          try dsimp only at c_27
          have h_27 : ((ss k).2.1 - q) < p := by
            have e := nI_ltI (a := ((ss k).2.1 - q)) (b := p) (by omega) (by omega)
            exact e.mp c_27
          refine z_iconst (v := 0) hJ d_Mo_isPart_34 (by decide) ?_
          exact z_ri hR d_Mo_isPart_35 (by rw [q_holds_m hsk hp hq, decide_eq_false (by omega)]; rfl) rfl
        · skip
          try dsimp only at c_27
          have h_27 : ¬ (((ss k).2.1 - q) < p) := by
            have e := nI_ltI (a := ((ss k).2.1 - q)) (b := p) (by omega) (by omega)
            exact fun q => c_27 (e.mpr q)
          refine z_iconst (v := 1) hJ d_Mo_isPart_30 (by decide) ?_
          refine z_goto hJ d_Mo_isPart_31 ?_
          exact z_ri hR d_Mo_isPart_35 (by rw [q_holds_m hsk hp hq, decide_eq_true (by omega)]; rfl) rfl
set_option maxRecDepth 100000 in
theorem m_Mo_copy {g : Nat → Nat → Nat} {a : Nat → Nat} {x0 : Nat → Int32} {x1 : Nat → Int32} {x3 : Nat → Int32} {x4 : Nat → Int32} {x5 : Nat → Int64} {x6 : Nat → Int32} {x7 : Nat} {x8 : Int32} {x9 : Nat} {x10 : Nat} {x11 : Int64} {x12 : Int32} {x13 : Bool} {x17 : Nat → Int64} {x18 : Nat → Int32} {x19 : Nat → Int32} {x20 : Bool} {ss : Nat → SS} {s fr t to n : Int32} (hss : ∀ k, k < 4 → (ss k).2.1 ≤ 40) : zM g y_Mo_copy b_Mo_copy 7 (some .int) 2 [.ref (a 0), .int s, .int fr, .int t, .int to, .int n] (mV g a x0 x1 127 x3 x4 x5 x6 x7 x8 x9 x10 x11 x12 x13 (q_b14 ss) (q_b15 ss) (q_b16 ss) x17 x18 x19 x20) [.int (p_copy x1 ss s fr t to n).1] (mV g a x0 ((p_copy x1 ss s fr t to n).2.1) 127 x3 x4 x5 x6 x7 x8 x9 x10 x11 x12 x13 (q_b14 (p_copy x1 ss s fr t to n).2.2) (q_b15 (p_copy x1 ss s fr t to n).2.2) (q_b16 (p_copy x1 ss s fr t to n).2.2) (if (p_copy x1 ss s fr t to n).1 < 0 then x17 else q_le ss x17 (40 * s.toNatClampNeg + fr.toNatClampNeg) n.toNatClampNeg) x18 x19 x20) := by
  refine zMi (lv := [(0, .ref (a 0)), (1, .int s), (2, .int fr), (3, .int t), (4, .int to), (5, .int n)]) (by decide) (Nat.le_of_ble_eq_true rfl) rfl (fun J hJ hR => ?_)
  rcases q_in_sh2 s t with ⟨k, m, hk, hm, rfl, rfl⟩ | ⟨hq, hq2⟩ | hq
  · have hq := q_in_sh_t hk
    have hq2 := q_in_sh_t hm
    have hcl : (nI k).toNatClampNeg = k := nI_clamp (by omega)
    have hcl2 : (nI m).toNatClampNeg = m := nI_clamp (by omega)
    refine z_iload_n hJ d_Mo_copy_0 1 rfl ?_
    refine z_callSi hJ m_Mo_isSheet k_Mo_302 zL.nil d_Mo_copy_1 rfl rfl (Nat.le_of_ble_eq_true rfl) ⟨by decide, by decide⟩ ?_
    refine zb_eq hJ d_Mo_copy_4 (fun c_4 => False.elim (by rw [hq] at c_4; exact absurd c_4 (by decide))) (fun c_4 => ?_)
    refine z_iload_n hJ d_Mo_copy_7 3 rfl ?_
    refine z_callSi hJ m_Mo_isSheet k_Mo_302 zL.nil d_Mo_copy_8 rfl rfl (Nat.le_of_ble_eq_true rfl) ⟨by decide, by decide⟩ ?_
    refine zb_ne hJ d_Mo_copy_11 (fun c_11 => ?_) (fun c_11 => False.elim (by rw [hq2] at c_11; exact absurd c_11 (by decide)))
    refine z_aload_n hJ d_Mo_copy_21 0 rfl ?_
    refine z_get hJ d_Mo_copy_22 hc_Mo f_Mo_33 0 rfl rfl (by decide) ?_
    refine z_iload_n hJ d_Mo_copy_25 1 rfl ?_
    refine z_iald hJ d_Mo_copy_26 7 (k) rfl rfl (by omega) (by decide) ?_
    refine z_c (y := (ss k).1) rfl ?_
    refine z_if_eq hJ d_Mo_copy_27 (fun c_27 => ?_) (fun c_27 => ?_)
    · skip
      try dsimp only at c_27
      refine z_aload_n hJ d_Mo_copy_39 0 rfl ?_
      refine z_ldcw hJ d_Mo_copy_40 c_Mo_306 ?_
      refine z_callVi hJ m_Mo_finds_5 k_Mo_67 zL_mv d_Mo_copy_43 hc_Mo 0 rfl rfl rfl (Nat.le_of_ble_eq_true rfl) ⟨by decide, by decide⟩ ?_
      exact z_ri hR d_Mo_copy_46 (by
        have e : p_copy x1 ss (nI k) fr (nI m) to n = (-1000000006, q_tel x1 5, ss) := by rw [p_copy, hq, hq2, hcl, hcl2, if_pos (show (true && true) = true from rfl), if_pos (Or.inl c_27)]
        rw [e]) (by
        have e : p_copy x1 ss (nI k) fr (nI m) to n = (-1000000006, q_tel x1 5, ss) := by rw [p_copy, hq, hq2, hcl, hcl2, if_pos (show (true && true) = true from rfl), if_pos (Or.inl c_27)]
        rw [e]
        dsimp only
        rw [if_pos (show (-1000000006 : Int32) < 0 by decide)])
    · skip
      try dsimp only at c_27
      refine z_aload_n hJ d_Mo_copy_30 0 rfl ?_
      refine z_get hJ d_Mo_copy_31 hc_Mo f_Mo_33 0 rfl rfl (by decide) ?_
      refine z_iload_n hJ d_Mo_copy_34 3 rfl ?_
      refine z_iald hJ d_Mo_copy_35 7 (m) rfl rfl (by omega) (by decide) ?_
      refine z_c (y := (ss m).1) rfl ?_
      refine z_if_ne hJ d_Mo_copy_36 (fun c_36 => ?_) (fun c_36 => ?_)
      · skip
        try dsimp only at c_36
        refine z_aload_n hJ d_Mo_copy_47 0 rfl ?_
        refine z_get hJ d_Mo_copy_48 hc_Mo f_Mo_33 0 rfl rfl (by decide) ?_
        refine z_iload_n hJ d_Mo_copy_51 1 rfl ?_
        refine z_iald hJ d_Mo_copy_52 7 (k) rfl rfl (by omega) (by decide) ?_
        refine z_c (y := (ss k).1) rfl ?_
        refine z_aload_n hJ d_Mo_copy_53 0 rfl ?_
        refine z_get hJ d_Mo_copy_54 hc_Mo f_Mo_33 0 rfl rfl (by decide) ?_
        refine z_iload_n hJ d_Mo_copy_57 3 rfl ?_
        refine z_iald hJ d_Mo_copy_58 7 (m) rfl rfl (by omega) (by decide) ?_
        refine z_c (y := (ss m).1) rfl ?_
        refine z_icmp_eq hJ d_Mo_copy_59 (fun c_59 => ?_) (fun c_59 => ?_)
        · skip
          try dsimp only at c_59
          refine z_aload_n hJ d_Mo_copy_69 0 rfl ?_
          refine z_iload_n hJ d_Mo_copy_70 1 rfl ?_
          refine z_iload_n hJ d_Mo_copy_71 2 rfl ?_
          refine z_iload hJ d_Mo_copy_72 5 rfl ?_
          refine z_callVi hJ (m_Mo_isPart hss hk) k_Mo_311 zL.id d_Mo_copy_74 hc_Mo 0 rfl rfl rfl (Nat.le_of_ble_eq_true rfl) ⟨by decide, by decide⟩ ?_
          refine zb_eq hJ d_Mo_copy_77 (fun c_77 => ?_) (fun c_77 => ?_)
          · skip
            try dsimp only at c_77
            refine z_aload_n hJ d_Mo_copy_92 0 rfl ?_
            refine z_ldc hJ d_Mo_copy_93 c_Mo_51 ?_
            refine z_callVi hJ m_Mo_finds_0 k_Mo_67 zL_mv d_Mo_copy_95 hc_Mo 0 rfl rfl rfl (Nat.le_of_ble_eq_true rfl) ⟨by decide, by decide⟩ ?_
            exact z_ri hR d_Mo_copy_98 (by
              have e : p_copy x1 ss (nI k) fr (nI m) to n = (-1000000001, q_tel x1 0, ss) := by rw [p_copy, hq, hq2, hcl, hcl2, if_pos (show (true && true) = true from rfl), if_neg (fun q => q.elim c_27 c_36), if_pos c_59, c_77]; rfl
              rw [e]) (by
              have e : p_copy x1 ss (nI k) fr (nI m) to n = (-1000000001, q_tel x1 0, ss) := by rw [p_copy, hq, hq2, hcl, hcl2, if_pos (show (true && true) = true from rfl), if_neg (fun q => q.elim c_27 c_36), if_pos c_59, c_77]; rfl
              rw [e]
              dsimp only
              rw [if_pos (show (-1000000001 : Int32) < 0 by decide)])
          · skip
            try dsimp only at c_77
            refine z_aload_n hJ d_Mo_copy_80 0 rfl ?_
            refine z_iload_n hJ d_Mo_copy_81 3 rfl ?_
            refine z_iload hJ d_Mo_copy_82 4 rfl ?_
            refine z_iload hJ d_Mo_copy_84 5 rfl ?_
            refine z_callVi hJ (m_Mo_isPart hss hm) k_Mo_311 zL.id d_Mo_copy_86 hc_Mo 0 rfl rfl rfl (Nat.le_of_ble_eq_true rfl) ⟨by decide, by decide⟩ ?_
            refine zb_ne hJ d_Mo_copy_89 (fun c_89 => ?_) (fun c_89 => ?_)
            · skip
              try dsimp only at c_89
              have hs1 := q_holds_le (hss k hk) c_77
              have hs2 := q_holds_le (hss m hm) c_89
              have h40 := hss k hk
              have h41 := hss m hm
              obtain ⟨p, hp, rfl⟩ := nI_of hs1.1
              obtain ⟨o, ho, rfl⟩ := nI_of hs2.1
              obtain ⟨q, hqq, rfl⟩ := nI_of hs1.2.1
              have hcp : (nI p).toNatClampNeg = p := nI_clamp hp
              have hco : (nI o).toNatClampNeg = o := nI_clamp ho
              have hcq : (nI q).toNatClampNeg = q := nI_clamp hqq
              have hl1 := hs1.2.2
              have hl2 := hs2.2.2
              rw [hcp, hcq] at hl1
              rw [hco, hcq] at hl2
              refine z_iconst (v := 0) hJ d_Mo_copy_99 (by decide) ?_
              refine z_istore (lv' := [(0, _), (1, _), (2, _), (3, _), (4, _), (5, _), (6, _)]) hJ d_Mo_copy_100 (by decide) rfl ?_
              have L102 : ∀ j : Nat, j ≤ q → J (mV g a x0 x1 127 x3 x4 x5 x6 x7 x8 x9 x10 x11 x12 x13 (q_b14 ss) (q_b15 ss) (q_b16 ss) (q_le ss x17 (40 * k + p) j) x18 x19 x20) 102 [(0, .ref (a 0)), (1, .int (nI k)), (2, .int (nI p)), (3, .int (nI m)), (4, .int (nI o)), (5, .int (nI q)), (6, .int (nI j))] [] := by
                refine zloop (q) (fun j hjN ih => ?_)
                refine z_iload hJ d_Mo_copy_102 6 rfl ?_
                refine z_iload hJ d_Mo_copy_104 5 rfl ?_
                refine z_icmp_ge hJ d_Mo_copy_106 (fun c_106 => ?_) (fun c_106 => ?_)
                · skip
                  try dsimp only at c_106
                  have h_106 : q ≤ j := by
                    have e := nI_leI (a := q) (b := j) (by omega) (by omega)
                    exact e.mp c_106
                  have hjq : j = q := by omega
                  refine z_iconst (v := 0) hJ d_Mo_copy_136 (by decide) ?_
                  refine z_istore (lv' := [(0, _), (1, _), (2, _), (3, _), (4, _), (5, _), (6, _)]) hJ d_Mo_copy_137 (by decide) rfl ?_
                  have L139 : ∀ j : Nat, j ≤ q → J (mV g a x0 x1 127 x3 x4 x5 x6 x7 x8 x9 x10 x11 x12 x13 (q_b14 ss) (q_b15 ss) (q_ld ss (40 * k + p) (40 * m + o) j) (q_le ss x17 (40 * k + p) q) x18 x19 x20) 139 [(0, .ref (a 0)), (1, .int (nI k)), (2, .int (nI p)), (3, .int (nI m)), (4, .int (nI o)), (5, .int (nI q)), (6, .int (nI j))] [] := by
                    refine zloop (q) (fun j hjN ih => ?_)
                    refine z_iload hJ d_Mo_copy_139 6 rfl ?_
                    refine z_iload hJ d_Mo_copy_141 5 rfl ?_
                    refine z_icmp_ge hJ d_Mo_copy_143 (fun c_143 => ?_) (fun c_143 => ?_)
                    · skip
                      try dsimp only at c_143
                      have h_143 : q ≤ j := by
                        have e := nI_leI (a := q) (b := j) (by omega) (by omega)
                        exact e.mp c_143
                      have hjq2 : j = q := by omega
                      refine z_iload hJ d_Mo_copy_174 5 rfl ?_
                      exact z_ri hR d_Mo_copy_176 (by
                        have e : p_copy x1 ss (nI k) (nI p) (nI m) (nI o) (nI q) = (nI q, x1, q_ssU ss m ((ss m).1, (ss m).2.1, va_cpy (ss k).2.2 (ss m).2.2 p o q)) := by rw [p_copy, hq, hq2, hcl, hcl2, if_pos (show (true && true) = true from rfl), if_neg (fun q => q.elim c_27 c_36), if_pos c_59, c_77, c_89, if_pos (show (true && true) = true from rfl), hcp, hco, hcq]
                        rw [e]) (by
                        have e : p_copy x1 ss (nI k) (nI p) (nI m) (nI o) (nI q) = (nI q, x1, q_ssU ss m ((ss m).1, (ss m).2.1, va_cpy (ss k).2.2 (ss m).2.2 p o q)) := by rw [p_copy, hq, hq2, hcl, hcl2, if_pos (show (true && true) = true from rfl), if_neg (fun q => q.elim c_27 c_36), if_pos c_59, c_77, c_89, if_pos (show (true && true) = true from rfl), hcp, hco, hcq]
                        rw [e]
                        dsimp only
                        rw [if_neg (nI_pos (by omega)), hcl, hcp, hcq, q_b14_s, q_b15_s, hjq2, q_ld_cpy ss (k := k) (m := m) (fr := p) (to := o) (n := q) (by omega) (by omega)])
                    · skip
                      try dsimp only at c_143
                      have h_143 : ¬ (q ≤ j) := by
                        have e := nI_leI (a := q) (b := j) (by omega) (by omega)
                        exact fun q => c_143 (e.mpr q)
                      refine z_aload_n hJ d_Mo_copy_146 0 rfl ?_
                      refine z_get hJ d_Mo_copy_147 hc_Mo f_Mo_39 0 rfl rfl (by decide) ?_
                      refine z_bipush (v := 40) hJ d_Mo_copy_150 (by decide) ?_
                      refine z_iload_n hJ d_Mo_copy_152 3 rfl ?_
                      refine z_imul hJ d_Mo_copy_153 ?_
                      refine z_iload hJ d_Mo_copy_154 4 rfl ?_
                      refine z_iadd hJ d_Mo_copy_156 ?_
                      refine z_c (z40 m o) ?_
                      refine z_iload hJ d_Mo_copy_157 6 rfl ?_
                      refine z_iadd hJ d_Mo_copy_159 ?_
                      refine z_c (y := nI (40 * m + o + j)) (nI_add _ _) ?_
                      refine z_aload_n hJ d_Mo_copy_160 0 rfl ?_
                      refine z_get hJ d_Mo_copy_161 hc_Mo f_Mo_42 0 rfl rfl (by decide) ?_
                      refine z_iload hJ d_Mo_copy_164 6 rfl ?_
                      refine z_lald hJ d_Mo_copy_166 10 (j) rfl rfl (by omega) (by decide) ?_
                      refine z_cl (y := q_b16 ss (40 * k + p + j)) (if_pos (by omega)) ?_
                      refine z_last (w' := mV g a x0 x1 127 x3 x4 x5 x6 x7 x8 x9 x10 x11 x12 x13 (q_b14 ss) (q_b15 ss) (vp_updL (q_ld ss (40 * k + p) (40 * m + o) j) (40 * m + o + j) (q_b16 ss (40 * k + p + j))) (q_le ss x17 (40 * k + p) q) x18 x19 x20) hJ d_Mo_copy_167 9 (40 * m + o + j) rfl rfl (by omega) (by decide) rfl ?_
                      refine z_w (w' := mV g a x0 x1 127 x3 x4 x5 x6 x7 x8 x9 x10 x11 x12 x13 (q_b14 ss) (q_b15 ss) (q_ld ss (40 * k + p) (40 * m + o) (j + 1)) (q_le ss x17 (40 * k + p) q) x18 x19 x20) (by rw [q_ld_s]) ?_
                      refine z_iinc (v := nI (j + 1)) (lv' := [(0, _), (1, _), (2, _), (3, _), (4, _), (5, _), (6, _)]) hJ d_Mo_copy_168 6 rfl (zinc _) (by decide) rfl ?_
                      refine z_goto hJ d_Mo_copy_171 ?_
                      exact ih (by omega)
                  have e := L139 0 (Nat.zero_le _)
                  rw [q_ld_0, ← hjq] at e
                  rw [← hjq]
                  exact e
                · skip
                  try dsimp only at c_106
                  have h_106 : ¬ (q ≤ j) := by
                    have e := nI_leI (a := q) (b := j) (by omega) (by omega)
                    exact fun q => c_106 (e.mpr q)
                  refine z_aload_n hJ d_Mo_copy_109 0 rfl ?_
                  refine z_get hJ d_Mo_copy_110 hc_Mo f_Mo_42 0 rfl rfl (by decide) ?_
                  refine z_iload hJ d_Mo_copy_113 6 rfl ?_
                  refine z_aload_n hJ d_Mo_copy_115 0 rfl ?_
                  refine z_get hJ d_Mo_copy_116 hc_Mo f_Mo_39 0 rfl rfl (by decide) ?_
                  refine z_bipush (v := 40) hJ d_Mo_copy_119 (by decide) ?_
                  refine z_iload_n hJ d_Mo_copy_121 1 rfl ?_
                  refine z_imul hJ d_Mo_copy_122 ?_
                  refine z_iload_n hJ d_Mo_copy_123 2 rfl ?_
                  refine z_iadd hJ d_Mo_copy_124 ?_
                  refine z_c (z40 k p) ?_
                  refine z_iload hJ d_Mo_copy_125 6 rfl ?_
                  refine z_iadd hJ d_Mo_copy_127 ?_
                  refine z_c (y := nI (40 * k + p + j)) (nI_add _ _) ?_
                  refine z_lald hJ d_Mo_copy_128 9 (40 * k + p + j) rfl rfl (by omega) (by decide) ?_
                  refine z_last (w' := mV g a x0 x1 127 x3 x4 x5 x6 x7 x8 x9 x10 x11 x12 x13 (q_b14 ss) (q_b15 ss) (q_b16 ss) (vp_updL (q_le ss x17 (40 * k + p) j) (j) (q_b16 ss (40 * k + p + j))) x18 x19 x20) hJ d_Mo_copy_129 10 (j) rfl rfl (by omega) (by decide) rfl ?_
                  refine z_w (w' := mV g a x0 x1 127 x3 x4 x5 x6 x7 x8 x9 x10 x11 x12 x13 (q_b14 ss) (q_b15 ss) (q_b16 ss) (q_le ss x17 (40 * k + p) (j + 1)) x18 x19 x20) (by rw [q_le_s]) ?_
                  refine z_iinc (v := nI (j + 1)) (lv' := [(0, _), (1, _), (2, _), (3, _), (4, _), (5, _), (6, _)]) hJ d_Mo_copy_130 6 rfl (zinc _) (by decide) rfl ?_
                  refine z_goto hJ d_Mo_copy_133 ?_
                  exact ih (by omega)
              have e := L102 0 (Nat.zero_le _)
              rw [q_le_0] at e
              exact e
            · skip
              try dsimp only at c_89
              refine z_aload_n hJ d_Mo_copy_92 0 rfl ?_
              refine z_ldc hJ d_Mo_copy_93 c_Mo_51 ?_
              refine z_callVi hJ m_Mo_finds_0 k_Mo_67 zL_mv d_Mo_copy_95 hc_Mo 0 rfl rfl rfl (Nat.le_of_ble_eq_true rfl) ⟨by decide, by decide⟩ ?_
              exact z_ri hR d_Mo_copy_98 (by
                have e : p_copy x1 ss (nI k) fr (nI m) to n = (-1000000001, q_tel x1 0, ss) := by rw [p_copy, hq, hq2, hcl, hcl2, if_pos (show (true && true) = true from rfl), if_neg (fun q => q.elim c_27 c_36), if_pos c_59, c_77, c_89]; rfl
                rw [e]) (by
                have e : p_copy x1 ss (nI k) fr (nI m) to n = (-1000000001, q_tel x1 0, ss) := by rw [p_copy, hq, hq2, hcl, hcl2, if_pos (show (true && true) = true from rfl), if_neg (fun q => q.elim c_27 c_36), if_pos c_59, c_77, c_89]; rfl
                rw [e]
                dsimp only
                rw [if_pos (show (-1000000001 : Int32) < 0 by decide)])
        · skip
          try dsimp only at c_59
          refine z_aload_n hJ d_Mo_copy_62 0 rfl ?_
          refine z_ldc hJ d_Mo_copy_63 c_Mo_105 ?_
          refine z_callVi hJ m_Mo_finds_2 k_Mo_67 zL_mv d_Mo_copy_65 hc_Mo 0 rfl rfl rfl (Nat.le_of_ble_eq_true rfl) ⟨by decide, by decide⟩ ?_
          exact z_ri hR d_Mo_copy_68 (by
            have e : p_copy x1 ss (nI k) fr (nI m) to n = (-1000000003, q_tel x1 2, ss) := by rw [p_copy, hq, hq2, hcl, hcl2, if_pos (show (true && true) = true from rfl), if_neg (fun q => q.elim c_27 c_36), if_neg c_59]
            rw [e]) (by
            have e : p_copy x1 ss (nI k) fr (nI m) to n = (-1000000003, q_tel x1 2, ss) := by rw [p_copy, hq, hq2, hcl, hcl2, if_pos (show (true && true) = true from rfl), if_neg (fun q => q.elim c_27 c_36), if_neg c_59]
            rw [e]
            dsimp only
            rw [if_pos (show (-1000000003 : Int32) < 0 by decide)])
      · skip
        try dsimp only at c_36
        refine z_aload_n hJ d_Mo_copy_39 0 rfl ?_
        refine z_ldcw hJ d_Mo_copy_40 c_Mo_306 ?_
        refine z_callVi hJ m_Mo_finds_5 k_Mo_67 zL_mv d_Mo_copy_43 hc_Mo 0 rfl rfl rfl (Nat.le_of_ble_eq_true rfl) ⟨by decide, by decide⟩ ?_
        exact z_ri hR d_Mo_copy_46 (by
          have e : p_copy x1 ss (nI k) fr (nI m) to n = (-1000000006, q_tel x1 5, ss) := by rw [p_copy, hq, hq2, hcl, hcl2, if_pos (show (true && true) = true from rfl), if_pos (Or.inr c_36)]
          rw [e]) (by
          have e : p_copy x1 ss (nI k) fr (nI m) to n = (-1000000006, q_tel x1 5, ss) := by rw [p_copy, hq, hq2, hcl, hcl2, if_pos (show (true && true) = true from rfl), if_pos (Or.inr c_36)]
          rw [e]
          dsimp only
          rw [if_pos (show (-1000000006 : Int32) < 0 by decide)])
  · have hcase := hq2
    refine z_iload_n hJ d_Mo_copy_0 1 rfl ?_
    refine z_callSi hJ m_Mo_isSheet k_Mo_302 zL.nil d_Mo_copy_1 rfl rfl (Nat.le_of_ble_eq_true rfl) ⟨by decide, by decide⟩ ?_
    refine zb_eq hJ d_Mo_copy_4 (fun c_4 => False.elim (by rw [hq] at c_4; exact absurd c_4 (by decide))) (fun c_4 => ?_)
    refine z_iload_n hJ d_Mo_copy_7 3 rfl ?_
    refine z_callSi hJ m_Mo_isSheet k_Mo_302 zL.nil d_Mo_copy_8 rfl rfl (Nat.le_of_ble_eq_true rfl) ⟨by decide, by decide⟩ ?_
    refine zb_ne hJ d_Mo_copy_11 (fun c_11 => False.elim (by rw [hq2] at c_11; exact absurd c_11 (by decide))) (fun c_11 => ?_)
    refine z_aload_n hJ d_Mo_copy_14 0 rfl ?_
    refine z_ldc hJ d_Mo_copy_15 c_Mo_51 ?_
    refine z_callVi hJ m_Mo_finds_0 k_Mo_67 zL_mv d_Mo_copy_17 hc_Mo 0 rfl rfl rfl (Nat.le_of_ble_eq_true rfl) ⟨by decide, by decide⟩ ?_
    exact z_ri hR d_Mo_copy_20 (by
      have e : p_copy x1 ss s fr t to n = (-1000000001, q_tel x1 0, ss) := by rw [p_copy, hq, hq2]; rfl
      rw [e]) (by
      have e : p_copy x1 ss s fr t to n = (-1000000001, q_tel x1 0, ss) := by rw [p_copy, hq, hq2]; rfl
      rw [e]
      dsimp only
      rw [if_pos (show (-1000000001 : Int32) < 0 by decide)])
  · skip
    refine z_iload_n hJ d_Mo_copy_0 1 rfl ?_
    refine z_callSi hJ m_Mo_isSheet k_Mo_302 zL.nil d_Mo_copy_1 rfl rfl (Nat.le_of_ble_eq_true rfl) ⟨by decide, by decide⟩ ?_
    refine zb_eq hJ d_Mo_copy_4 (fun c_4 => ?_) (fun c_4 => False.elim (by rw [hq] at c_4; exact absurd c_4 (by decide)))
    refine z_aload_n hJ d_Mo_copy_14 0 rfl ?_
    refine z_ldc hJ d_Mo_copy_15 c_Mo_51 ?_
    refine z_callVi hJ m_Mo_finds_0 k_Mo_67 zL_mv d_Mo_copy_17 hc_Mo 0 rfl rfl rfl (Nat.le_of_ble_eq_true rfl) ⟨by decide, by decide⟩ ?_
    exact z_ri hR d_Mo_copy_20 (by
      have e : p_copy x1 ss s fr t to n = (-1000000001, q_tel x1 0, ss) := by rw [p_copy, hq]; rfl
      rw [e]) (by
      have e : p_copy x1 ss s fr t to n = (-1000000001, q_tel x1 0, ss) := by rw [p_copy, hq]; rfl
      rw [e]
      dsimp only
      rw [if_pos (show (-1000000001 : Int32) < 0 by decide)])
