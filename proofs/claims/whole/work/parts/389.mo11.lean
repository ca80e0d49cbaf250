theorem q_st_or (w : Int32) : (w = -1 ∧ q_in w (-1) 6 = true) ∨ (∃ k, k < 7 ∧ w = nI k ∧ q_in w (-1) 6 = true ∧ q_in w 0 6 = true ∧ ¬ w = -1) ∨ (q_in w (-1) 6 = false ∧ ¬ w = -1 ∧ q_in w 0 6 = false) := by
  by_cases h1 : w = -1
  · left; rw [h1]; exact ⟨rfl, by decide⟩
  · right
    rcases q_ix_or w (n := 7) (by decide) with ⟨k, hk, e⟩ | h
    · left
      have q : ∀ k : Fin 7, q_in (nI k.val) (-1) 6 = true ∧ q_in (nI k.val) 0 6 = true := by decide
      exact ⟨k, hk, e, by rw [e]; exact (q ⟨k, hk⟩).1, by rw [e]; exact (q ⟨k, hk⟩).2, h1⟩
    · right
      have h2 : q_in w 0 6 = false := h
      refine ⟨?_, h1, h2⟩
      unfold q_in at h2 ⊢
      by_cases hn : w < -1
      · rw [decide_eq_true hn]; rfl
      · have h0 : ¬ w < 0 := fun z => h1 (by
          have a := Int32.lt_iff_toInt_lt.mp z
          have b : ¬ w.toInt < (-1 : Int32).toInt := fun y => hn (Int32.lt_iff_toInt_lt.mpr y)
          apply Int32.toInt_inj.mp
          have e1 : (-1 : Int32).toInt = -1 := by decide
          have e0 : (0 : Int32).toInt = 0 := by decide
          rw [e1] at b ⊢
          rw [e0] at a
          omega)
        rw [decide_eq_false h0] at h2
        rw [decide_eq_false hn]
        exact h2
set_option maxRecDepth 100000 in
theorem m_Mo_status {g : Nat → Nat → Nat} {a : Nat → Nat} {x0 : Nat → Int32} {x1 : Nat → Int32} {x3 : Nat → Int32} {x4 : Nat → Int32} {x5 : Nat → Int64} {x6 : Nat → Int32} {x7 : Nat} {x8 : Int32} {x9 : Nat} {x10 : Nat} {x11 : Int64} {x12 : Int32} {x13 : Bool} {x14 : Nat → Int32} {x15 : Nat → Int32} {x16 : Nat → Int64} {x17 : Nat → Int64} {x18 : Nat → Int32} {x19 : Nat → Int32} {x20 : Bool} {P : RS} {w : Int32} (hR0 : zRo P x0) (hP : zPi P) (hG : zRg P) : zM g y_Mo_status b_Mo_status 4 (some .int) 1 [.ref (a 0), .int w] (mV g a x0 x1 127 x3 x4 x5 x6 x7 x8 x9 x10 x11 x12 x13 x14 x15 x16 x17 x18 x19 x20) [.int (p_status x1 w).1] (mV g a x0 ((p_status x1 w).2) 127 x3 x4 x5 x6 x7 x8 x9 x10 x11 x12 x13 x14 x15 x16 x17 x18 x19 x20) := by
  refine zMi (lv := [(0, .ref (a 0)), (1, .int w)]) (by decide) (Nat.le_of_ble_eq_true rfl) rfl (fun J hJ hR => ?_)
  rcases q_st_or w with ⟨hw, hi⟩ | ⟨k, hk, hw, hi, hi0, hn⟩ | ⟨hi, hn, hi0⟩
  · have h_a := hw
    refine z_iload_n hJ d_Mo_status_0 1 rfl ?_
    refine z_iconst (v := (-1)) hJ d_Mo_status_1 (by decide) ?_
    refine z_bipush (v := 6) hJ d_Mo_status_2 (by decide) ?_
    refine z_callSi hJ m_Mo_in k_Mo_52 zL.nil d_Mo_status_4 rfl rfl (Nat.le_of_ble_eq_true rfl) ⟨by decide, by decide⟩ ?_
    refine zb_ne hJ d_Mo_status_7 (fun c_7 => ?_) (fun c_7 => False.elim (by rw [hi] at c_7; exact absurd c_7 (by decide)))
    refine z_iconst (v := 0) hJ d_Mo_status_17 (by decide) ?_
    refine z_istore_n (lv' := [(0, _), (1, _), (2, _)]) hJ d_Mo_status_18 (by decide) rfl ?_
    refine z_iconst (v := 0) hJ d_Mo_status_19 (by decide) ?_
    refine z_istore_n (lv' := [(0, _), (1, _), (2, _), (3, _)]) hJ d_Mo_status_20 (by decide) rfl ?_
    have L21 : ∀ j : Nat, j ≤ 7 → J (mV g a x0 x1 127 x3 x4 x5 x6 x7 x8 x9 x10 x11 x12 x13 x14 x15 x16 x17 x18 x19 x20) 21 [(0, .ref (a 0)), (1, .int w), (2, .int (q_sum x1 j)), (3, .int (nI j))] [] := by
      refine zloop (7) (fun j hjN ih => ?_)
      refine z_iload_n hJ d_Mo_status_21 3 rfl ?_
      refine z_bipush (v := 7) hJ d_Mo_status_22 (by decide) ?_
      refine z_icmp_ge hJ d_Mo_status_24 (fun c_24 => ?_) (fun c_24 => ?_)
      · skip
        try dsimp only at c_24
        have h_24 : 7 ≤ j := by
          have e := nI_leI (a := 7) (b := j) (by omega) (by omega)
          exact e.mp c_24
        obtain rfl : j = 7 := by omega
        refine z_iload_n hJ d_Mo_status_42 1 rfl ?_
        refine z_c (y := -1) hw ?_
        refine z_if_ge hJ d_Mo_status_43 (fun c => absurd c (by decide)) (fun _ => ?_)
        refine z_iload_n hJ d_Mo_status_46 2 rfl ?_
        refine z_goto hJ d_Mo_status_47 ?_
        exact z_ri hR d_Mo_status_64 (by simp [p_status, hw]) (by simp [p_status, hw])
      · skip
        try dsimp only at c_24
        have h_24 : ¬ (7 ≤ j) := by
          have e := nI_leI (a := 7) (b := j) (by omega) (by omega)
          exact fun q => c_24 (e.mpr q)
        refine z_iload_n hJ d_Mo_status_27 2 rfl ?_
        refine z_aload_n hJ d_Mo_status_28 0 rfl ?_
        refine z_get hJ d_Mo_status_29 hc_Mo f_Mo_13 0 rfl rfl (by decide) ?_
        refine z_iload_n hJ d_Mo_status_32 3 rfl ?_
        refine z_iald hJ d_Mo_status_33 2 (j) rfl rfl (by omega) (by decide) ?_
        refine z_iadd hJ d_Mo_status_34 ?_
        refine z_istore_n (lv' := [(0, _), (1, _), (2, _), (3, _)]) hJ d_Mo_status_35 (by decide) rfl ?_
        refine z_iinc (v := nI (j + 1)) (lv' := [(0, _), (1, _), (2, _), (3, _)]) hJ d_Mo_status_36 3 rfl (zinc _) (by decide) rfl ?_
        refine z_goto hJ d_Mo_status_39 ?_
        exact ih (by omega)
    exact L21 0 (Nat.zero_le _)
  · have h_b := hw
    refine z_iload_n hJ d_Mo_status_0 1 rfl ?_
    refine z_iconst (v := (-1)) hJ d_Mo_status_1 (by decide) ?_
    refine z_bipush (v := 6) hJ d_Mo_status_2 (by decide) ?_
    refine z_callSi hJ m_Mo_in k_Mo_52 zL.nil d_Mo_status_4 rfl rfl (Nat.le_of_ble_eq_true rfl) ⟨by decide, by decide⟩ ?_
    refine zb_ne hJ d_Mo_status_7 (fun c_7 => ?_) (fun c_7 => False.elim (by rw [hi] at c_7; exact absurd c_7 (by decide)))
    refine z_iconst (v := 0) hJ d_Mo_status_17 (by decide) ?_
    refine z_istore_n (lv' := [(0, _), (1, _), (2, _)]) hJ d_Mo_status_18 (by decide) rfl ?_
    refine z_iconst (v := 0) hJ d_Mo_status_19 (by decide) ?_
    refine z_istore_n (lv' := [(0, _), (1, _), (2, _), (3, _)]) hJ d_Mo_status_20 (by decide) rfl ?_
    have L21 : ∀ j : Nat, j ≤ 7 → J (mV g a x0 x1 127 x3 x4 x5 x6 x7 x8 x9 x10 x11 x12 x13 x14 x15 x16 x17 x18 x19 x20) 21 [(0, .ref (a 0)), (1, .int w), (2, .int (q_sum x1 j)), (3, .int (nI j))] [] := by
      refine zloop (7) (fun j hjN ih => ?_)
      refine z_iload_n hJ d_Mo_status_21 3 rfl ?_
      refine z_bipush (v := 7) hJ d_Mo_status_22 (by decide) ?_
      refine z_icmp_ge hJ d_Mo_status_24 (fun c_24 => ?_) (fun c_24 => ?_)
      · skip
        try dsimp only at c_24
        have h_24 : 7 ≤ j := by
          have e := nI_leI (a := 7) (b := j) (by omega) (by omega)
          exact e.mp c_24
        obtain rfl : j = 7 := by omega
        refine z_iload_n hJ d_Mo_status_42 1 rfl ?_
        refine z_c (y := nI k) hw ?_
        refine z_if_ge hJ d_Mo_status_43 (fun c_43 => ?_) (fun c_43 => False.elim (by exact absurd (nI_pos' (n := k) (by omega)) c_43))
        refine z_aload_n hJ d_Mo_status_50 0 rfl ?_
        refine z_get hJ d_Mo_status_51 hc_Mo f_Mo_13 0 rfl rfl (by decide) ?_
        refine z_iload_n hJ d_Mo_status_54 1 rfl ?_
        refine z_c (y := nI k) hw ?_
        refine z_if_ge hJ d_Mo_status_55 (fun c_55 => ?_) (fun c_55 => False.elim (by exact absurd (nI_pos' (n := k) (by omega)) c_55))
        refine z_iload_n hJ d_Mo_status_62 1 rfl ?_
        refine z_c (y := nI k) hw ?_
        refine z_iald hJ d_Mo_status_63 2 (k) rfl rfl (by omega) (by decide) ?_
        exact z_ri hR d_Mo_status_64 (by rw [p_status, if_neg hn, if_pos hi0, hw, nI_clamp (by omega)]) (by rw [p_status, if_neg hn, if_pos hi0])
      · skip
        try dsimp only at c_24
        have h_24 : ¬ (7 ≤ j) := by
          have e := nI_leI (a := 7) (b := j) (by omega) (by omega)
          exact fun q => c_24 (e.mpr q)
        refine z_iload_n hJ d_Mo_status_27 2 rfl ?_
        refine z_aload_n hJ d_Mo_status_28 0 rfl ?_
        refine z_get hJ d_Mo_status_29 hc_Mo f_Mo_13 0 rfl rfl (by decide) ?_
        refine z_iload_n hJ d_Mo_status_32 3 rfl ?_
        refine z_iald hJ d_Mo_status_33 2 (j) rfl rfl (by omega) (by decide) ?_
        refine z_iadd hJ d_Mo_status_34 ?_
        refine z_istore_n (lv' := [(0, _), (1, _), (2, _), (3, _)]) hJ d_Mo_status_35 (by decide) rfl ?_
        refine z_iinc (v := nI (j + 1)) (lv' := [(0, _), (1, _), (2, _), (3, _)]) hJ d_Mo_status_36 3 rfl (zinc _) (by decide) rfl ?_
        refine z_goto hJ d_Mo_status_39 ?_
        exact ih (by omega)
    exact L21 0 (Nat.zero_le _)
  · skip
    refine z_iload_n hJ d_Mo_status_0 1 rfl ?_
    refine z_iconst (v := (-1)) hJ d_Mo_status_1 (by decide) ?_
    refine z_bipush (v := 6) hJ d_Mo_status_2 (by decide) ?_
    refine z_callSi hJ m_Mo_in k_Mo_52 zL.nil d_Mo_status_4 rfl rfl (Nat.le_of_ble_eq_true rfl) ⟨by decide, by decide⟩ ?_
    refine zb_ne hJ d_Mo_status_7 (fun c_7 => False.elim (by rw [hi] at c_7; exact absurd c_7 (by decide))) (fun c_7 => ?_)
    refine z_aload_n hJ d_Mo_status_10 0 rfl ?_
    refine z_ldc hJ d_Mo_status_11 c_Mo_51 ?_
    refine z_callVi hJ m_Mo_finds_0 k_Mo_67 zL_mv d_Mo_status_13 hc_Mo 0 rfl rfl rfl (Nat.le_of_ble_eq_true rfl) ⟨by decide, by decide⟩ ?_
    exact z_ri hR d_Mo_status_16 (by simp [p_status, hn, hi0]) (by simp [p_status, hn, hi0])
