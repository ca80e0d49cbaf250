theorem q_sm_cg {m m' : Nat → Bool} {aw : Nat} (h : ∀ s, s &&& aw = s → m s = m' s) : ∀ n, q_sm m aw n = q_sm m' aw n
  | 0 => rfl
  | n + 1 => by
    rw [q_sm, q_sm, q_sm_cg h n]
    by_cases e : n &&& aw = n
    · rw [h n e]
    · rw [if_neg (fun q => e q.2.1), if_neg (fun q => e q.2.1)]
theorem q_sm_ge (m : Nat → Bool) (aw : Nat) : ∀ d, q_sm m aw (aw + 1 + d) = q_sm m aw (aw + 1)
  | 0 => rfl
  | d + 1 => by
    rw [← Nat.add_assoc, q_sm_f, q_sm_ge m aw d]
    intro q
    have h : aw + 1 + d &&& aw ≤ aw := Nat.and_le_right
    have h2 := q.2.1
    omega
theorem q_sm_tie {P : RS} (h7 : P.2.1 ≤ 7) (t : Nat) : q_sm (fun s => q_isMet P (s &&& q_awk P) t) (q_awk P) 128 = q_sml P t := by
  have ha := q_awk_128 h7
  unfold q_sml
  rw [q_sm_cg (m' := fun s => q_isMet P s t) (m := fun s => q_isMet P (s &&& q_awk P) t) (fun s e => congrArg (fun z => q_isMet P z t) e), show 128 = q_awk P + 1 + (127 - q_awk P) by omega, q_sm_ge]
theorem q_sml_lt {P : RS} (h7 : P.2.1 ≤ 7) (t : Nat) : q_sml P t < 129 := by
  have ha := q_awk_128 h7
  have h := q_sm_le (fun s => q_isMet P s t) (q_awk P) (q_awk P + 1)
  unfold q_sml
  omega
theorem q_ls_ge {z : Nat} (hz : z < 1000) : (0 ≤ q_ls z ↔ ¬ z = 0) := by
  unfold q_ls
  by_cases h : z = 0
  · rw [if_pos h]; exact ⟨fun q => absurd q (by decide), fun q => absurd h q⟩
  · rw [if_neg h]; exact ⟨fun _ => h, fun _ => nI_pos' (by omega)⟩
set_option maxRecDepth 100000 in
theorem m_Mo_fewest {g : Nat → Nat → Nat} {a : Nat → Nat} {x0 : Nat → Int32} {x1 : Nat → Int32} {x3 : Nat → Int32} {x4 : Nat → Int32} {x5 : Nat → Int64} {x6 : Nat → Int32} {x7 : Nat} {x8 : Int32} {x9 : Nat} {x10 : Nat} {x11 : Int64} {x12 : Int32} {x13 : Bool} {x14 : Nat → Int32} {x15 : Nat → Int32} {x16 : Nat → Int64} {x17 : Nat → Int64} {x18 : Nat → Int32} {x19 : Nat → Int32} {x20 : Bool} {P : RS} {i : Int32} (hR0 : zRo P x0) (hP : zPi P) (hG : zRg P) : zM g y_Mo_fewest b_Mo_fewest 3 (some .int) 10 [.ref (a 0), .int i] (mV g a x0 x1 127 x3 x4 x5 x6 x7 x8 x9 x10 x11 x12 x13 x14 x15 x16 x17 x18 x19 x20) [.int (p_fewest x1 P i).1] (mV g a x0 ((p_fewest x1 P i).2) 127 x3 x4 x5 x6 x7 x8 x9 x10 x11 x12 x13 x14 x15 x16 x17 x18 x19 x20) := by
  refine zMi (lv := [(0, .ref (a 0)), (1, .int i)]) (by decide) (Nat.le_of_ble_eq_true rfl) rfl (fun J hJ hR => ?_)
  rcases q_ix_or i (n := P.2.2.1) (by first | exact Nat.le_trans hP.1 (by decide) | exact hP.2.1) with ⟨k, hj, rfl⟩ | hq
  · have hj7 := hP.1
    have hj8 := hP.2.1
    have hq := q_ix_t hj (n := P.2.2.1) (by omega)
    have hcl : (nI k).toNatClampNeg = k := nI_clamp (by omega)
    refine z_aload_n hJ d_Mo_fewest_0 0 rfl ?_
    refine z_iload_n hJ d_Mo_fewest_1 1 rfl ?_
    refine z_callVi hJ (m_Mo_isTask (M := (x0, x1, 127, x3, x4, x5, x6, x7, x8, x9, x10, x11, x12, x13, x14, x15, x16, x17, x18, x19, x20)) hR0) k_Mo_126 zL_mv d_Mo_fewest_2 hc_Mo 0 rfl rfl rfl (Nat.le_of_ble_eq_true rfl) ⟨by decide, by decide⟩ ?_
    refine zb_ne hJ d_Mo_fewest_5 (fun c_5 => ?_) (fun c_5 => False.elim (by rw [hq] at c_5; exact absurd c_5 (by decide)))
    refine z_aload_n hJ d_Mo_fewest_15 0 rfl ?_
    refine z_iload_n hJ d_Mo_fewest_16 1 rfl ?_
    refine z_callVi hJ (m_Mo_leastSet hR0 hP hG hj) k_Mo_175 zL.id d_Mo_fewest_17 hc_Mo 0 rfl rfl rfl (Nat.le_of_ble_eq_true rfl) ⟨by decide, by decide⟩ ?_
    refine z_c (y := q_ls (q_sml P k)) (by rw [q_sm_tie hP.1]) ?_
    have hl := q_sml_lt hP.1 k
    refine z_istore_n (lv' := [(0, _), (1, _), (2, _)]) hJ d_Mo_fewest_20 (by decide) rfl ?_
    refine z_iload_n hJ d_Mo_fewest_21 2 rfl ?_
    refine z_if_ge hJ d_Mo_fewest_22 (fun c_22 => ?_) (fun c_22 => ?_)
    · skip
      try dsimp only at c_22
      have hz := (q_ls_ge (by omega)).mp c_22
      refine z_iload_n hJ d_Mo_fewest_34 2 rfl ?_
      refine z_c (y := nI (q_sml P k)) (q_ls_p hz) ?_
      refine z_callSi hJ (m_Mo_bits (by omega)) k_Mo_166 zL.nil d_Mo_fewest_35 rfl rfl (Nat.le_of_ble_eq_true rfl) ⟨by decide, by decide⟩ ?_
      exact z_ri hR d_Mo_fewest_38 (by simp [p_fewest, hq, hcl, hz, q_bc_bits (show q_sml P k < 256 by omega)]) (by simp [p_fewest, hq, hcl, hz])
    · skip
      try dsimp only at c_22
      have hz : q_sml P k = 0 := Decidable.byContradiction (fun e => c_22 ((q_ls_ge (by omega)).mpr e))
      refine z_aload_n hJ d_Mo_fewest_25 0 rfl ?_
      refine z_ldc hJ d_Mo_fewest_26 c_Mo_159 ?_
      refine z_callVi hJ m_Mo_finds_3 k_Mo_67 zL_mv d_Mo_fewest_28 hc_Mo 0 rfl rfl rfl (Nat.le_of_ble_eq_true rfl) ⟨by decide, by decide⟩ ?_
      refine z_goto hJ d_Mo_fewest_31 ?_
      exact z_ri hR d_Mo_fewest_38 (by simp [p_fewest, hq, hcl, hz]) (by simp [p_fewest, hq, hcl, hz])
  · skip
    refine z_aload_n hJ d_Mo_fewest_0 0 rfl ?_
    refine z_iload_n hJ d_Mo_fewest_1 1 rfl ?_
    refine z_callVi hJ (m_Mo_isTask (M := (x0, x1, 127, x3, x4, x5, x6, x7, x8, x9, x10, x11, x12, x13, x14, x15, x16, x17, x18, x19, x20)) hR0) k_Mo_126 zL_mv d_Mo_fewest_2 hc_Mo 0 rfl rfl rfl (Nat.le_of_ble_eq_true rfl) ⟨by decide, by decide⟩ ?_
    refine zb_ne hJ d_Mo_fewest_5 (fun c_5 => False.elim (by rw [hq] at c_5; exact absurd c_5 (by decide))) (fun c_5 => ?_)
    refine z_aload_n hJ d_Mo_fewest_8 0 rfl ?_
    refine z_ldc hJ d_Mo_fewest_9 c_Mo_51 ?_
    refine z_callVi hJ m_Mo_finds_0 k_Mo_67 zL_mv d_Mo_fewest_11 hc_Mo 0 rfl rfl rfl (Nat.le_of_ble_eq_true rfl) ⟨by decide, by decide⟩ ?_
    exact z_ri hR d_Mo_fewest_14 (by simp [p_fewest, hq, c_5]; try rfl) (by simp [p_fewest, hq, c_5])
set_option maxRecDepth 100000 in
theorem m_Mo_who {g : Nat → Nat → Nat} {a : Nat → Nat} {x0 : Nat → Int32} {x1 : Nat → Int32} {x3 : Nat → Int32} {x4 : Nat → Int32} {x5 : Nat → Int64} {x6 : Nat → Int32} {x7 : Nat} {x8 : Int32} {x9 : Nat} {x10 : Nat} {x11 : Int64} {x12 : Int32} {x13 : Bool} {x14 : Nat → Int32} {x15 : Nat → Int32} {x16 : Nat → Int64} {x17 : Nat → Int64} {x18 : Nat → Int32} {x19 : Nat → Int32} {x20 : Bool} {P : RS} {i : Int32} (hR0 : zRo P x0) (hP : zPi P) (hG : zRg P) : zM g y_Mo_who b_Mo_who 3 (some .int) 10 [.ref (a 0), .int i] (mV g a x0 x1 127 x3 x4 x5 x6 x7 x8 x9 x10 x11 x12 x13 x14 x15 x16 x17 x18 x19 x20) [.int (p_who x1 P i).1] (mV g a x0 ((p_who x1 P i).2) 127 x3 x4 x5 x6 x7 x8 x9 x10 x11 x12 x13 x14 x15 x16 x17 x18 x19 x20) := by
  refine zMi (lv := [(0, .ref (a 0)), (1, .int i)]) (by decide) (Nat.le_of_ble_eq_true rfl) rfl (fun J hJ hR => ?_)
  rcases q_ix_or i (n := P.2.2.1) (by first | exact Nat.le_trans hP.1 (by decide) | exact hP.2.1) with ⟨k, hj, rfl⟩ | hq
  · have hj7 := hP.1
    have hj8 := hP.2.1
    have hq := q_ix_t hj (n := P.2.2.1) (by omega)
    have hcl : (nI k).toNatClampNeg = k := nI_clamp (by omega)
    refine z_aload_n hJ d_Mo_who_0 0 rfl ?_
    refine z_iload_n hJ d_Mo_who_1 1 rfl ?_
    refine z_callVi hJ (m_Mo_isTask (M := (x0, x1, 127, x3, x4, x5, x6, x7, x8, x9, x10, x11, x12, x13, x14, x15, x16, x17, x18, x19, x20)) hR0) k_Mo_126 zL_mv d_Mo_who_2 hc_Mo 0 rfl rfl rfl (Nat.le_of_ble_eq_true rfl) ⟨by decide, by decide⟩ ?_
    refine zb_ne hJ d_Mo_who_5 (fun c_5 => ?_) (fun c_5 => False.elim (by rw [hq] at c_5; exact absurd c_5 (by decide)))
    refine z_aload_n hJ d_Mo_who_15 0 rfl ?_
    refine z_iload_n hJ d_Mo_who_16 1 rfl ?_
    refine z_callVi hJ (m_Mo_leastSet hR0 hP hG hj) k_Mo_175 zL.id d_Mo_who_17 hc_Mo 0 rfl rfl rfl (Nat.le_of_ble_eq_true rfl) ⟨by decide, by decide⟩ ?_
    refine z_c (y := q_ls (q_sml P k)) (by rw [q_sm_tie hP.1]) ?_
    have hl := q_sml_lt hP.1 k
    refine z_istore_n (lv' := [(0, _), (1, _), (2, _)]) hJ d_Mo_who_20 (by decide) rfl ?_
    refine z_iload_n hJ d_Mo_who_21 2 rfl ?_
    refine z_if_ge hJ d_Mo_who_22 (fun c_22 => ?_) (fun c_22 => ?_)
    · skip
      try dsimp only at c_22
      have hz := (q_ls_ge (by omega)).mp c_22
      refine z_iload_n hJ d_Mo_who_34 2 rfl ?_
      refine z_c (y := nI (q_sml P k)) (q_ls_p hz) ?_
      exact z_ri hR d_Mo_who_35 (by simp [p_who, hq, hcl, hz]) (by simp [p_who, hq, hcl, hz])
    · skip
      try dsimp only at c_22
      have hz : q_sml P k = 0 := Decidable.byContradiction (fun e => c_22 ((q_ls_ge (by omega)).mpr e))
      refine z_aload_n hJ d_Mo_who_25 0 rfl ?_
      refine z_ldc hJ d_Mo_who_26 c_Mo_159 ?_
      refine z_callVi hJ m_Mo_finds_3 k_Mo_67 zL_mv d_Mo_who_28 hc_Mo 0 rfl rfl rfl (Nat.le_of_ble_eq_true rfl) ⟨by decide, by decide⟩ ?_
      refine z_goto hJ d_Mo_who_31 ?_
      exact z_ri hR d_Mo_who_35 (by simp [p_who, hq, hcl, hz]) (by simp [p_who, hq, hcl, hz])
  · skip
    refine z_aload_n hJ d_Mo_who_0 0 rfl ?_
    refine z_iload_n hJ d_Mo_who_1 1 rfl ?_
    refine z_callVi hJ (m_Mo_isTask (M := (x0, x1, 127, x3, x4, x5, x6, x7, x8, x9, x10, x11, x12, x13, x14, x15, x16, x17, x18, x19, x20)) hR0) k_Mo_126 zL_mv d_Mo_who_2 hc_Mo 0 rfl rfl rfl (Nat.le_of_ble_eq_true rfl) ⟨by decide, by decide⟩ ?_
    refine zb_ne hJ d_Mo_who_5 (fun c_5 => False.elim (by rw [hq] at c_5; exact absurd c_5 (by decide))) (fun c_5 => ?_)
    refine z_aload_n hJ d_Mo_who_8 0 rfl ?_
    refine z_ldc hJ d_Mo_who_9 c_Mo_51 ?_
    refine z_callVi hJ m_Mo_finds_0 k_Mo_67 zL_mv d_Mo_who_11 hc_Mo 0 rfl rfl rfl (Nat.le_of_ble_eq_true rfl) ⟨by decide, by decide⟩ ?_
    exact z_ri hR d_Mo_who_14 (by simp [p_who, hq, c_5]; try rfl) (by simp [p_who, hq, c_5])
