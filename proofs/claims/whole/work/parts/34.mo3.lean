theorem q_127 {P : RS} (h : P.2.1 ≤ 7) : 127 &&& q_awk P = q_awk P := by
  have h2 := q_awk_128 h
  rw [Nat.and_comm, show (127 : Nat) = 2 ^ 7 - 1 from rfl, Nat.and_two_pow_sub_one_eq_mod, Nat.mod_eq_of_lt h2]
theorem m_Mo_isSpoilt7 {g : Nat → Nat → Nat} {a : Nat → Nat} {M : MS} {P : RS} {p : Nat} (hR0 : zRo P M.1) (hP : zPi P) (hG : zRg P) (h7 : M.2.2.1 = 127) (hp : p < P.2.1) : zM g y_Mo_isSpoilt b_Mo_isSpoilt 3 (some .boolean) 3 [.ref (a 0), .int (nI p)] (mW g a M) [.int (zB (q_spoilt P (q_awk P) p))] (mW g a M) := by
  have h := m_Mo_isSpoilt (g := g) (a := a) hR0 hP hG (by rw [h7]; decide) hp
  rw [h7, q_127 hP.1] at h
  exact h
theorem m_Mo_helpsIt7 {g : Nat → Nat → Nat} {a : Nat → Nat} {M : MS} {P : RS} {p t : Nat} (hR0 : zRo P M.1) (hP : zPi P) (hG : zRg P) (h7 : M.2.2.1 = 127) (hp : p < P.2.1) (ht : t < P.2.2.1) : zM g y_Mo_helpsIt b_Mo_helpsIt 5 (some .int) 4 [.ref (a 0), .int (nI p), .int (nI t)] (mW g a M) [.int (q_help P (q_awk P) (q_spm P (q_awk P)) p t)] (mW g a M) := by
  have h := m_Mo_helpsIt (g := g) (a := a) hR0 hP hG (by rw [h7]; decide) hp ht
  rw [h7, q_127 hP.1] at h
  exact h
theorem m_Mo_helpOf7 {g : Nat → Nat → Nat} {a : Nat → Nat} {M : MS} {P : RS} {t : Nat} (hR0 : zRo P M.1) (hP : zPi P) (hG : zRg P) (h7 : M.2.2.1 = 127) (ht : t < P.2.2.1) : zM g y_Mo_helpOf b_Mo_helpOf 4 (some .int) 5 [.ref (a 0), .int (nI t)] (mW g a M) [.int (q_helpA P (q_awk P) (q_spm P (q_awk P)) t)] (mW g a M) := by
  have h := m_Mo_helpOf (g := g) (a := a) hR0 hP hG (by rw [h7]; decide) ht
  rw [h7, q_127 hP.1] at h
  exact h
theorem m_Mo_helpers7 {g : Nat → Nat → Nat} {a : Nat → Nat} {M : MS} {P : RS} {t : Nat} (hR0 : zRo P M.1) (hP : zPi P) (hG : zRg P) (h7 : M.2.2.1 = 127) (ht : t < P.2.2.1) : zM g y_Mo_helpers b_Mo_helpers 4 (some .int) 5 [.ref (a 0), .int (nI t)] (mW g a M) [.int (nI (q_helpers P (q_awk P) (q_spm P (q_awk P)) t))] (mW g a M) := by
  have h := m_Mo_helpers (g := g) (a := a) hR0 hP hG (by rw [h7]; decide) ht
  rw [h7, q_127 hP.1] at h
  exact h
theorem m_Mo_isMet7 {g : Nat → Nat → Nat} {a : Nat → Nat} {M : MS} {P : RS} {t : Nat} (hR0 : zRo P M.1) (hP : zPi P) (hG : zRg P) (h7 : M.2.2.1 = 127) (ht : t < P.2.2.1) : zM g y_Mo_isMet b_Mo_isMet 2 (some .boolean) 6 [.ref (a 0), .int (nI t)] (mW g a M) [.int (zB (q_isMet P (q_awk P) t))] (mW g a M) := by
  have h := m_Mo_isMet (g := g) (a := a) hR0 hP hG (by rw [h7]; decide) ht
  rw [h7, q_127 hP.1] at h
  exact h
theorem m_Mo_metNow7 {g : Nat → Nat → Nat} {a : Nat → Nat} {M : MS} {P : RS}  (hR0 : zRo P M.1) (hP : zPi P) (hG : zRg P) (h7 : M.2.2.1 = 127)  : zM g y_Mo_metNow b_Mo_metNow 3 (some .int) 7 [.ref (a 0)] (mW g a M) [.int (nI (q_metS P (q_awk P)))] (mW g a M) := by
  have h := m_Mo_metNow (g := g) (a := a) hR0 hP hG (by rw [h7]; decide) 
  rw [h7, q_127 hP.1] at h
  exact h
theorem m_Mo_earned7 {g : Nat → Nat → Nat} {a : Nat → Nat} {M : MS} {P : RS}  (hR0 : zRo P M.1) (hP : zPi P) (hG : zRg P) (h7 : M.2.2.1 = 127)  : zM g y_Mo_earned b_Mo_earned 3 (some .int) 7 [.ref (a 0)] (mW g a M) [.int (q_earn P (q_awk P))] (mW g a M) := by
  have h := m_Mo_earned (g := g) (a := a) hR0 hP hG (by rw [h7]; decide) 
  rw [h7, q_127 hP.1] at h
  exact h
theorem m_Mo_spoiltOnes7 {g : Nat → Nat → Nat} {a : Nat → Nat} {M : MS} {P : RS}  (hR0 : zRo P M.1) (hP : zPi P) (hG : zRg P) (h7 : M.2.2.1 = 127)  : zM g y_Mo_spoiltOnes b_Mo_spoiltOnes 3 (some .int) 4 [.ref (a 0)] (mW g a M) [.int (nI (q_spm P (q_awk P)))] (mW g a M) := by
  have h := m_Mo_spoiltOnes (g := g) (a := a) hR0 hP hG (by rw [h7]; decide) 
  rw [h7, q_127 hP.1] at h
  exact h
set_option maxRecDepth 100000 in
theorem m_Mo_does {g : Nat → Nat → Nat} {a : Nat → Nat} {x0 : Nat → Int32} {x1 : Nat → Int32} {x3 : Nat → Int32} {x4 : Nat → Int32} {x5 : Nat → Int64} {x6 : Nat → Int32} {x7 : Nat} {x8 : Int32} {x9 : Nat} {x10 : Nat} {x11 : Int64} {x12 : Int32} {x13 : Bool} {x14 : Nat → Int32} {x15 : Nat → Int32} {x16 : Nat → Int64} {x17 : Nat → Int64} {x18 : Nat → Int32} {x19 : Nat → Int32} {x20 : Bool} {P : RS} {i k : Int32} (hR0 : zRo P x0) (hP : zPi P) (hG : zRg P) : zM g y_Mo_does b_Mo_does 3 (some .int) 2 [.ref (a 0), .int i, .int k] (mV g a x0 x1 127 x3 x4 x5 x6 x7 x8 x9 x10 x11 x12 x13 x14 x15 x16 x17 x18 x19 x20) [.int (p_does x1 P i k).1] (mV g a x0 ((p_does x1 P i k).2) 127 x3 x4 x5 x6 x7 x8 x9 x10 x11 x12 x13 x14 x15 x16 x17 x18 x19 x20) := by
  refine zMi (lv := [(0, .ref (a 0)), (1, .int i), (2, .int k)]) (by decide) (Nat.le_of_ble_eq_true rfl) rfl (fun J hJ hR => ?_)
  rcases q_ix_or i (n := P.2.1) (by first | exact Nat.le_trans hP.1 (by decide) | exact hP.2.1) with ⟨j, hj, rfl⟩ | hq
  · have hj7 := hP.1
    have hj8 := hP.2.1
    have hq := q_ix_t hj (n := P.2.1) (by omega)
    have hcl : (nI j).toNatClampNeg = j := nI_clamp (by omega)
    refine z_aload_n hJ d_Mo_does_0 0 rfl ?_
    refine z_iload_n hJ d_Mo_does_1 1 rfl ?_
    refine z_callVi hJ (m_Mo_isOne (M := (x0, x1, 127, x3, x4, x5, x6, x7, x8, x9, x10, x11, x12, x13, x14, x15, x16, x17, x18, x19, x20)) hR0) k_Mo_96 zL_mv d_Mo_does_2 hc_Mo 0 rfl rfl rfl (Nat.le_of_ble_eq_true rfl) ⟨by decide, by decide⟩ ?_
    refine zb_eq hJ d_Mo_does_5 (fun c_5 => False.elim (by rw [hq] at c_5; exact absurd c_5 (by decide))) (fun c_5 => ?_)
    refine z_iload_n hJ d_Mo_does_8 2 rfl ?_
    refine z_iconst (v := 0) hJ d_Mo_does_9 (by decide) ?_
    refine z_iconst (v := 4) hJ d_Mo_does_10 (by decide) ?_
    refine z_callSi hJ m_Mo_in k_Mo_52 zL.nil d_Mo_does_11 rfl rfl (Nat.le_of_ble_eq_true rfl) ⟨by decide, by decide⟩ ?_
    refine zb_eq hJ d_Mo_does_14 (fun c_14 => ?_) (fun c_14 => ?_)
    · skip
      try dsimp only at c_14
      refine z_aload_n hJ d_Mo_does_26 0 rfl ?_
      refine z_ldc hJ d_Mo_does_27 c_Mo_51 ?_
      refine z_callVi hJ m_Mo_finds_0 k_Mo_67 zL_mv d_Mo_does_29 hc_Mo 0 rfl rfl rfl (Nat.le_of_ble_eq_true rfl) ⟨by decide, by decide⟩ ?_
      exact z_ri hR d_Mo_does_32 (by simp [p_does, hq, hcl, c_5, c_14]; try rfl) (by simp [p_does, hq, hcl, c_5, c_14])
    · skip
      try dsimp only at c_14
      obtain ⟨c, hc, rfl⟩ := q_in_nat (n := 5) (by decide) (show q_in k 0 (nI 5 - 1) = true from c_14)
      refine z_aload_n hJ d_Mo_does_17 0 rfl ?_
      refine z_iload_n hJ d_Mo_does_18 1 rfl ?_
      refine z_iload_n hJ d_Mo_does_19 2 rfl ?_
      refine z_callVi hJ (m_Mo_doesIt (M := (x0, x1, 127, x3, x4, x5, x6, x7, x8, x9, x10, x11, x12, x13, x14, x15, x16, x17, x18, x19, x20)) hR0 (by omega) hc) k_Mo_106 zL_mv d_Mo_does_20 hc_Mo 0 rfl rfl rfl (Nat.le_of_ble_eq_true rfl) ⟨by decide, by decide⟩ ?_
      refine z_goto hJ d_Mo_does_23 ?_
      exact z_ri hR d_Mo_does_32 (by simp [p_does, hq, hcl, c_5, c_14]; try rfl) (by simp [p_does, hq, hcl, c_5, c_14])
  · skip
    refine z_aload_n hJ d_Mo_does_0 0 rfl ?_
    refine z_iload_n hJ d_Mo_does_1 1 rfl ?_
    refine z_callVi hJ (m_Mo_isOne (M := (x0, x1, 127, x3, x4, x5, x6, x7, x8, x9, x10, x11, x12, x13, x14, x15, x16, x17, x18, x19, x20)) hR0) k_Mo_96 zL_mv d_Mo_does_2 hc_Mo 0 rfl rfl rfl (Nat.le_of_ble_eq_true rfl) ⟨by decide, by decide⟩ ?_
    refine zb_eq hJ d_Mo_does_5 (fun c_5 => ?_) (fun c_5 => False.elim (by rw [hq] at c_5; exact absurd c_5 (by decide)))
    refine z_aload_n hJ d_Mo_does_26 0 rfl ?_
    refine z_ldc hJ d_Mo_does_27 c_Mo_51 ?_
    refine z_callVi hJ m_Mo_finds_0 k_Mo_67 zL_mv d_Mo_does_29 hc_Mo 0 rfl rfl rfl (Nat.le_of_ble_eq_true rfl) ⟨by decide, by decide⟩ ?_
    exact z_ri hR d_Mo_does_32 (by simp [p_does, hq, c_5]; try rfl) (by simp [p_does, hq, c_5])
set_option maxRecDepth 100000 in
theorem m_Mo_as {g : Nat → Nat → Nat} {a : Nat → Nat} {x0 : Nat → Int32} {x1 : Nat → Int32} {x3 : Nat → Int32} {x4 : Nat → Int32} {x5 : Nat → Int64} {x6 : Nat → Int32} {x7 : Nat} {x8 : Int32} {x9 : Nat} {x10 : Nat} {x11 : Int64} {x12 : Int32} {x13 : Bool} {x14 : Nat → Int32} {x15 : Nat → Int32} {x16 : Nat → Int64} {x17 : Nat → Int64} {x18 : Nat → Int32} {x19 : Nat → Int32} {x20 : Bool} {P : RS} {i k : Int32} (hR0 : zRo P x0) (hP : zPi P) (hG : zRg P) : zM g y_Mo_as b_Mo_as 3 (some .int) 2 [.ref (a 0), .int i, .int k] (mV g a x0 x1 127 x3 x4 x5 x6 x7 x8 x9 x10 x11 x12 x13 x14 x15 x16 x17 x18 x19 x20) [.int (p_as x1 P i k).1] (mV g a x0 ((p_as x1 P i k).2) 127 x3 x4 x5 x6 x7 x8 x9 x10 x11 x12 x13 x14 x15 x16 x17 x18 x19 x20) := by
  refine zMi (lv := [(0, .ref (a 0)), (1, .int i), (2, .int k)]) (by decide) (Nat.le_of_ble_eq_true rfl) rfl (fun J hJ hR => ?_)
  rcases q_ix_or i (n := P.2.1) (by first | exact Nat.le_trans hP.1 (by decide) | exact hP.2.1) with ⟨j, hj, rfl⟩ | hq
  · have hj7 := hP.1
    have hj8 := hP.2.1
    have hq := q_ix_t hj (n := P.2.1) (by omega)
    have hcl : (nI j).toNatClampNeg = j := nI_clamp (by omega)
    refine z_aload_n hJ d_Mo_as_0 0 rfl ?_
    refine z_iload_n hJ d_Mo_as_1 1 rfl ?_
    refine z_callVi hJ (m_Mo_isOne (M := (x0, x1, 127, x3, x4, x5, x6, x7, x8, x9, x10, x11, x12, x13, x14, x15, x16, x17, x18, x19, x20)) hR0) k_Mo_96 zL_mv d_Mo_as_2 hc_Mo 0 rfl rfl rfl (Nat.le_of_ble_eq_true rfl) ⟨by decide, by decide⟩ ?_
    refine zb_eq hJ d_Mo_as_5 (fun c_5 => False.elim (by rw [hq] at c_5; exact absurd c_5 (by decide))) (fun c_5 => ?_)
    refine z_iload_n hJ d_Mo_as_8 2 rfl ?_
    refine z_callSi hJ m_Mo_isKind k_Mo_60 zL.nil d_Mo_as_9 rfl rfl (Nat.le_of_ble_eq_true rfl) ⟨by decide, by decide⟩ ?_
    refine zb_ne hJ d_Mo_as_12 (fun c_12 => ?_) (fun c_12 => ?_)
    · skip
      try dsimp only at c_12
      obtain ⟨kc, hkc, ek⟩ := (hG.2.2.1 j hj).1
      refine z_aload_n hJ d_Mo_as_22 0 rfl ?_
      refine z_iload_n hJ d_Mo_as_23 1 rfl ?_
      refine z_iconst (v := 0) hJ d_Mo_as_24 (by decide) ?_
      refine z_callVi hJ (m_Mo_its0 (M := (x0, x1, 127, x3, x4, x5, x6, x7, x8, x9, x10, x11, x12, x13, x14, x15, x16, x17, x18, x19, x20)) hR0 (by omega)) k_Mo_76 zL_mv d_Mo_as_25 hc_Mo 0 rfl rfl rfl (Nat.le_of_ble_eq_true rfl) ⟨by decide, by decide⟩ ?_
      refine z_iload_n hJ d_Mo_as_28 2 rfl ?_
      refine z_callSi hJ m_Mo_isUnder k_Mo_87 zL.nil d_Mo_as_29 rfl rfl (Nat.le_of_ble_eq_true rfl) ⟨by decide, by decide⟩ ?_
      refine z_c (y := zB (q_of (rk P j) k)) (by rw [ek, q_un_of hkc]) ?_
      refine zb_eq hJ d_Mo_as_32 (fun c_32 => ?_) (fun c_32 => ?_)
      · skip
        try dsimp only at c_32
        refine z_aload_n hJ d_Mo_as_44 0 rfl ?_
        refine z_ldc hJ d_Mo_as_45 c_Mo_105 ?_
        refine z_callVi hJ m_Mo_finds_2 k_Mo_67 zL_mv d_Mo_as_47 hc_Mo 0 rfl rfl rfl (Nat.le_of_ble_eq_true rfl) ⟨by decide, by decide⟩ ?_
        exact z_ri hR d_Mo_as_50 (by simp [p_as, hq, hcl, c_5, c_12, c_32]; try rfl) (by simp [p_as, hq, hcl, c_5, c_12, c_32])
      · skip
        try dsimp only at c_32
        refine z_aload_n hJ d_Mo_as_35 0 rfl ?_
        refine z_iload_n hJ d_Mo_as_36 1 rfl ?_
        refine z_iconst (v := 3) hJ d_Mo_as_37 (by decide) ?_
        refine z_callVi hJ (m_Mo_its3 (M := (x0, x1, 127, x3, x4, x5, x6, x7, x8, x9, x10, x11, x12, x13, x14, x15, x16, x17, x18, x19, x20)) hR0 (by omega)) k_Mo_76 zL_mv d_Mo_as_38 hc_Mo 0 rfl rfl rfl (Nat.le_of_ble_eq_true rfl) ⟨by decide, by decide⟩ ?_
        refine z_goto hJ d_Mo_as_41 ?_
        exact z_ri hR d_Mo_as_50 (by simp [p_as, hq, hcl, c_5, c_12, c_32]; try rfl) (by simp [p_as, hq, hcl, c_5, c_12, c_32])
    · skip
      try dsimp only at c_12
      refine z_aload_n hJ d_Mo_as_15 0 rfl ?_
      refine z_ldc hJ d_Mo_as_16 c_Mo_51 ?_
      refine z_callVi hJ m_Mo_finds_0 k_Mo_67 zL_mv d_Mo_as_18 hc_Mo 0 rfl rfl rfl (Nat.le_of_ble_eq_true rfl) ⟨by decide, by decide⟩ ?_
      exact z_ri hR d_Mo_as_21 (by simp [p_as, hq, hcl, c_5, c_12]; try rfl) (by simp [p_as, hq, hcl, c_5, c_12])
  · skip
    refine z_aload_n hJ d_Mo_as_0 0 rfl ?_
    refine z_iload_n hJ d_Mo_as_1 1 rfl ?_
    refine z_callVi hJ (m_Mo_isOne (M := (x0, x1, 127, x3, x4, x5, x6, x7, x8, x9, x10, x11, x12, x13, x14, x15, x16, x17, x18, x19, x20)) hR0) k_Mo_96 zL_mv d_Mo_as_2 hc_Mo 0 rfl rfl rfl (Nat.le_of_ble_eq_true rfl) ⟨by decide, by decide⟩ ?_
    refine zb_eq hJ d_Mo_as_5 (fun c_5 => ?_) (fun c_5 => False.elim (by rw [hq] at c_5; exact absurd c_5 (by decide)))
    refine z_aload_n hJ d_Mo_as_15 0 rfl ?_
    refine z_ldc hJ d_Mo_as_16 c_Mo_51 ?_
    refine z_callVi hJ m_Mo_finds_0 k_Mo_67 zL_mv d_Mo_as_18 hc_Mo 0 rfl rfl rfl (Nat.le_of_ble_eq_true rfl) ⟨by decide, by decide⟩ ?_
    exact z_ri hR d_Mo_as_21 (by simp [p_as, hq, c_5]; try rfl) (by simp [p_as, hq, c_5])
set_option maxRecDepth 100000 in
theorem m_Mo_turn {g : Nat → Nat → Nat} {a : Nat → Nat} {x0 : Nat → Int32} {x1 : Nat → Int32} {x3 : Nat → Int32} {x4 : Nat → Int32} {x5 : Nat → Int64} {x6 : Nat → Int32} {x7 : Nat} {x8 : Int32} {x9 : Nat} {x10 : Nat} {x11 : Int64} {x12 : Int32} {x13 : Bool} {x14 : Nat → Int32} {x15 : Nat → Int32} {x16 : Nat → Int64} {x17 : Nat → Int64} {x18 : Nat → Int32} {x19 : Nat → Int32} {x20 : Bool} {P : RS} {i k : Int32} (hR0 : zRo P x0) (hP : zPi P) (hG : zRg P) : zM g y_Mo_turn b_Mo_turn 4 (some .int) 2 [.ref (a 0), .int i, .int k] (mV g a x0 x1 127 x3 x4 x5 x6 x7 x8 x9 x10 x11 x12 x13 x14 x15 x16 x17 x18 x19 x20) [.int (p_turn x1 P i k).1] (mV g a (if q_ix i P.2.1 && q_in k 0 5 then upd x0 (3 + 5 * i.toNatClampNeg + 0) k else x0) ((p_turn x1 P i k).2.1) 127 x3 x4 x5 x6 x7 x8 x9 x10 x11 x12 x13 x14 x15 x16 x17 x18 x19 x20) := by
  refine zMi (lv := [(0, .ref (a 0)), (1, .int i), (2, .int k)]) (by decide) (Nat.le_of_ble_eq_true rfl) rfl (fun J hJ hR => ?_)
  rcases q_ix_or i (n := P.2.1) (by first | exact Nat.le_trans hP.1 (by decide) | exact hP.2.1) with ⟨j, hj, rfl⟩ | hq
  · have hj7 := hP.1
    have hj8 := hP.2.1
    have hq := q_ix_t hj (n := P.2.1) (by omega)
    have hcl : (nI j).toNatClampNeg = j := nI_clamp (by omega)
    refine z_aload_n hJ d_Mo_turn_0 0 rfl ?_
    refine z_iload_n hJ d_Mo_turn_1 1 rfl ?_
    refine z_callVi hJ (m_Mo_isOne (M := (x0, x1, 127, x3, x4, x5, x6, x7, x8, x9, x10, x11, x12, x13, x14, x15, x16, x17, x18, x19, x20)) hR0) k_Mo_96 zL_mv d_Mo_turn_2 hc_Mo 0 rfl rfl rfl (Nat.le_of_ble_eq_true rfl) ⟨by decide, by decide⟩ ?_
    refine zb_eq hJ d_Mo_turn_5 (fun c_5 => False.elim (by rw [hq] at c_5; exact absurd c_5 (by decide))) (fun c_5 => ?_)
    refine z_iload_n hJ d_Mo_turn_8 2 rfl ?_
    refine z_callSi hJ m_Mo_isKind k_Mo_60 zL.nil d_Mo_turn_9 rfl rfl (Nat.le_of_ble_eq_true rfl) ⟨by decide, by decide⟩ ?_
    refine zb_ne hJ d_Mo_turn_12 (fun c_12 => ?_) (fun c_12 => ?_)
    · skip
      try dsimp only at c_12
      refine z_aload_n hJ d_Mo_turn_22 0 rfl ?_
      refine z_iload_n hJ d_Mo_turn_23 1 rfl ?_
      refine z_iconst (v := 0) hJ d_Mo_turn_24 (by decide) ?_
      refine z_callVi hJ (m_Mo_its0 (M := (x0, x1, 127, x3, x4, x5, x6, x7, x8, x9, x10, x11, x12, x13, x14, x15, x16, x17, x18, x19, x20)) hR0 (by omega)) k_Mo_76 zL_mv d_Mo_turn_25 hc_Mo 0 rfl rfl rfl (Nat.le_of_ble_eq_true rfl) ⟨by decide, by decide⟩ ?_
      refine z_istore_n (lv' := [(0, _), (1, _), (2, _), (3, _)]) hJ d_Mo_turn_28 (by decide) rfl ?_
      refine z_aload_n hJ d_Mo_turn_29 0 rfl ?_
      refine z_iload_n hJ d_Mo_turn_30 1 rfl ?_
      refine z_iconst (v := 0) hJ d_Mo_turn_31 (by decide) ?_
      refine z_iload_n hJ d_Mo_turn_32 2 rfl ?_
      refine z_callVv hJ (m_Mo_puts (M := (x0, x1, 127, x3, x4, x5, x6, x7, x8, x9, x10, x11, x12, x13, x14, x15, x16, x17, x18, x19, x20)) (p := j) (w := 0) (by omega) (by decide)) k_Mo_56 zL_mv d_Mo_turn_33 hc_Mo 0 rfl rfl rfl (Nat.le_of_ble_eq_true rfl) ⟨by decide, by decide⟩ ?_
      refine z_iload_n hJ d_Mo_turn_36 3 rfl ?_
      exact z_ri hR d_Mo_turn_37 (by simp [p_turn, hq, hcl, c_5, c_12]; try rfl) (by simp [p_turn, hq, hcl, c_5, c_12])
    · skip
      try dsimp only at c_12
      refine z_aload_n hJ d_Mo_turn_15 0 rfl ?_
      refine z_ldc hJ d_Mo_turn_16 c_Mo_51 ?_
      refine z_callVi hJ m_Mo_finds_0 k_Mo_67 zL_mv d_Mo_turn_18 hc_Mo 0 rfl rfl rfl (Nat.le_of_ble_eq_true rfl) ⟨by decide, by decide⟩ ?_
      exact z_ri hR d_Mo_turn_21 (by simp [p_turn, hq, hcl, c_5, c_12]; try rfl) (by simp [p_turn, hq, hcl, c_5, c_12])
  · skip
    refine z_aload_n hJ d_Mo_turn_0 0 rfl ?_
    refine z_iload_n hJ d_Mo_turn_1 1 rfl ?_
    refine z_callVi hJ (m_Mo_isOne (M := (x0, x1, 127, x3, x4, x5, x6, x7, x8, x9, x10, x11, x12, x13, x14, x15, x16, x17, x18, x19, x20)) hR0) k_Mo_96 zL_mv d_Mo_turn_2 hc_Mo 0 rfl rfl rfl (Nat.le_of_ble_eq_true rfl) ⟨by decide, by decide⟩ ?_
    refine zb_eq hJ d_Mo_turn_5 (fun c_5 => ?_) (fun c_5 => False.elim (by rw [hq] at c_5; exact absurd c_5 (by decide)))
    refine z_aload_n hJ d_Mo_turn_15 0 rfl ?_
    refine z_ldc hJ d_Mo_turn_16 c_Mo_51 ?_
    refine z_callVi hJ m_Mo_finds_0 k_Mo_67 zL_mv d_Mo_turn_18 hc_Mo 0 rfl rfl rfl (Nat.le_of_ble_eq_true rfl) ⟨by decide, by decide⟩ ?_
    exact z_ri hR d_Mo_turn_21 (by simp [p_turn, hq, c_5]; try rfl) (by simp [p_turn, hq, c_5])
set_option maxRecDepth 100000 in
theorem m_Mo_helps {g : Nat → Nat → Nat} {a : Nat → Nat} {x0 : Nat → Int32} {x1 : Nat → Int32} {x3 : Nat → Int32} {x4 : Nat → Int32} {x5 : Nat → Int64} {x6 : Nat → Int32} {x7 : Nat} {x8 : Int32} {x9 : Nat} {x10 : Nat} {x11 : Int64} {x12 : Int32} {x13 : Bool} {x14 : Nat → Int32} {x15 : Nat → Int32} {x16 : Nat → Int64} {x17 : Nat → Int64} {x18 : Nat → Int32} {x19 : Nat → Int32} {x20 : Bool} {P : RS} {i u : Int32} (hR0 : zRo P x0) (hP : zPi P) (hG : zRg P) : zM g y_Mo_helps b_Mo_helps 3 (some .int) 5 [.ref (a 0), .int i, .int u] (mV g a x0 x1 127 x3 x4 x5 x6 x7 x8 x9 x10 x11 x12 x13 x14 x15 x16 x17 x18 x19 x20) [.int (p_helps x1 P i u).1] (mV g a x0 ((p_helps x1 P i u).2) 127 x3 x4 x5 x6 x7 x8 x9 x10 x11 x12 x13 x14 x15 x16 x17 x18 x19 x20) := by
  refine zMi (lv := [(0, .ref (a 0)), (1, .int i), (2, .int u)]) (by decide) (Nat.le_of_ble_eq_true rfl) rfl (fun J hJ hR => ?_)
  rcases q_ix_or2 i u (n := P.2.1) (t := P.2.2.1) (Nat.le_trans hP.1 (by decide)) hP.2.1 with ⟨j, k, hj, hk, rfl, rfl⟩ | ⟨hq, hq2⟩ | hq
  · have hj7 := hP.1
    have hj8 := hP.2.1
    have hq := q_ix_t hj (n := P.2.1) (by omega)
    have hq2 := q_ix_t hk (n := P.2.2.1) (by omega)
    have hcl : (nI j).toNatClampNeg = j := nI_clamp (by omega)
    have hcl2 : (nI k).toNatClampNeg = k := nI_clamp (by omega)
    refine z_aload_n hJ d_Mo_helps_0 0 rfl ?_
    refine z_iload_n hJ d_Mo_helps_1 1 rfl ?_
    refine z_callVi hJ (m_Mo_isOne (M := (x0, x1, 127, x3, x4, x5, x6, x7, x8, x9, x10, x11, x12, x13, x14, x15, x16, x17, x18, x19, x20)) hR0) k_Mo_96 zL_mv d_Mo_helps_2 hc_Mo 0 rfl rfl rfl (Nat.le_of_ble_eq_true rfl) ⟨by decide, by decide⟩ ?_
    refine zb_eq hJ d_Mo_helps_5 (fun c_5 => False.elim (by rw [hq] at c_5; exact absurd c_5 (by decide))) (fun c_5 => ?_)
    refine z_aload_n hJ d_Mo_helps_8 0 rfl ?_
    refine z_iload_n hJ d_Mo_helps_9 2 rfl ?_
    refine z_callVi hJ (m_Mo_isTask (M := (x0, x1, 127, x3, x4, x5, x6, x7, x8, x9, x10, x11, x12, x13, x14, x15, x16, x17, x18, x19, x20)) hR0) k_Mo_126 zL_mv d_Mo_helps_10 hc_Mo 0 rfl rfl rfl (Nat.le_of_ble_eq_true rfl) ⟨by decide, by decide⟩ ?_
    refine zb_eq hJ d_Mo_helps_13 (fun c_13 => False.elim (by rw [hq2] at c_13; exact absurd c_13 (by decide))) (fun c_13 => ?_)
    refine z_aload_n hJ d_Mo_helps_16 0 rfl ?_
    refine z_iload_n hJ d_Mo_helps_17 1 rfl ?_
    refine z_iload_n hJ d_Mo_helps_18 2 rfl ?_
    refine z_callVi hJ (m_Mo_helpsIt7 (M := (x0, x1, 127, x3, x4, x5, x6, x7, x8, x9, x10, x11, x12, x13, x14, x15, x16, x17, x18, x19, x20)) hR0 hP hG rfl (by omega) (by omega)) k_Mo_120 zL_mv d_Mo_helps_19 hc_Mo 0 rfl rfl rfl (Nat.le_of_ble_eq_true rfl) ⟨by decide, by decide⟩ ?_
    refine z_goto hJ d_Mo_helps_22 ?_
    exact z_ri hR d_Mo_helps_31 (by simp [p_helps, hq, hq2, hcl, hcl2, c_5, c_13]; try rfl) (by simp [p_helps, hq, hq2, hcl, hcl2, c_5, c_13])
  · have hcase := hq2
    refine z_aload_n hJ d_Mo_helps_0 0 rfl ?_
    refine z_iload_n hJ d_Mo_helps_1 1 rfl ?_
    refine z_callVi hJ (m_Mo_isOne (M := (x0, x1, 127, x3, x4, x5, x6, x7, x8, x9, x10, x11, x12, x13, x14, x15, x16, x17, x18, x19, x20)) hR0) k_Mo_96 zL_mv d_Mo_helps_2 hc_Mo 0 rfl rfl rfl (Nat.le_of_ble_eq_true rfl) ⟨by decide, by decide⟩ ?_
    refine zb_eq hJ d_Mo_helps_5 (fun c_5 => False.elim (by rw [hq] at c_5; exact absurd c_5 (by decide))) (fun c_5 => ?_)
    refine z_aload_n hJ d_Mo_helps_8 0 rfl ?_
    refine z_iload_n hJ d_Mo_helps_9 2 rfl ?_
    refine z_callVi hJ (m_Mo_isTask (M := (x0, x1, 127, x3, x4, x5, x6, x7, x8, x9, x10, x11, x12, x13, x14, x15, x16, x17, x18, x19, x20)) hR0) k_Mo_126 zL_mv d_Mo_helps_10 hc_Mo 0 rfl rfl rfl (Nat.le_of_ble_eq_true rfl) ⟨by decide, by decide⟩ ?_
    refine zb_eq hJ d_Mo_helps_13 (fun c_13 => ?_) (fun c_13 => False.elim (by rw [hq2] at c_13; exact absurd c_13 (by decide)))
    refine z_aload_n hJ d_Mo_helps_25 0 rfl ?_
    refine z_ldc hJ d_Mo_helps_26 c_Mo_51 ?_
    refine z_callVi hJ m_Mo_finds_0 k_Mo_67 zL_mv d_Mo_helps_28 hc_Mo 0 rfl rfl rfl (Nat.le_of_ble_eq_true rfl) ⟨by decide, by decide⟩ ?_
    exact z_ri hR d_Mo_helps_31 (by simp [p_helps, hq, hq2, c_5, c_13]; try rfl) (by simp [p_helps, hq, hq2, c_5, c_13])
  · skip
    refine z_aload_n hJ d_Mo_helps_0 0 rfl ?_
    refine z_iload_n hJ d_Mo_helps_1 1 rfl ?_
    refine z_callVi hJ (m_Mo_isOne (M := (x0, x1, 127, x3, x4, x5, x6, x7, x8, x9, x10, x11, x12, x13, x14, x15, x16, x17, x18, x19, x20)) hR0) k_Mo_96 zL_mv d_Mo_helps_2 hc_Mo 0 rfl rfl rfl (Nat.le_of_ble_eq_true rfl) ⟨by decide, by decide⟩ ?_
    refine zb_eq hJ d_Mo_helps_5 (fun c_5 => ?_) (fun c_5 => False.elim (by rw [hq] at c_5; exact absurd c_5 (by decide)))
    refine z_aload_n hJ d_Mo_helps_25 0 rfl ?_
    refine z_ldc hJ d_Mo_helps_26 c_Mo_51 ?_
    refine z_callVi hJ m_Mo_finds_0 k_Mo_67 zL_mv d_Mo_helps_28 hc_Mo 0 rfl rfl rfl (Nat.le_of_ble_eq_true rfl) ⟨by decide, by decide⟩ ?_
    exact z_ri hR d_Mo_helps_31 (by simp [p_helps, hq, c_5]; try rfl) (by simp [p_helps, hq, c_5])
set_option maxRecDepth 100000 in
theorem m_Mo_now {g : Nat → Nat → Nat} {a : Nat → Nat} {x0 : Nat → Int32} {x1 : Nat → Int32} {x3 : Nat → Int32} {x4 : Nat → Int32} {x5 : Nat → Int64} {x6 : Nat → Int32} {x7 : Nat} {x8 : Int32} {x9 : Nat} {x10 : Nat} {x11 : Int64} {x12 : Int32} {x13 : Bool} {x14 : Nat → Int32} {x15 : Nat → Int32} {x16 : Nat → Int64} {x17 : Nat → Int64} {x18 : Nat → Int32} {x19 : Nat → Int32} {x20 : Bool} {P : RS} {w : Int32} (hR0 : zRo P x0) (hP : zPi P) (hG : zRg P) : zM g y_Mo_now b_Mo_now 2 (some .int) 8 [.ref (a 0), .int w] (mV g a x0 x1 127 x3 x4 x5 x6 x7 x8 x9 x10 x11 x12 x13 x14 x15 x16 x17 x18 x19 x20) [.int (if w = 5 then (if P.2.1 = 0 then 0 else (q_sp (rm P) P.2.1).2 - (q_sp (rm P) P.2.1).1) else (p_now x1 P w).1)] (mV g a x0 ((p_now x1 P w).2) 127 x3 x4 x5 x6 x7 x8 x9 x10 x11 x12 x13 x14 x15 x16 x17 x18 x19 x20) := by
  have hj7 := hP.1
  have hj8 := hP.2.1
  refine zMi (lv := [(0, .ref (a 0)), (1, .int w)]) (by decide) (Nat.le_of_ble_eq_true rfl) rfl (fun J hJ hR => ?_)
  refine z_iload_n hJ d_Mo_now_0 1 rfl ?_
  refine z_sw (tgt := 72) [(0, 40), (1, 47), (2, 52), (3, 57), (4, 62), (5, 67)] hJ d_Mo_now_1 (by decide) (by decide) ?_ (fun c_1 => ?_)
  · intro q hq e
    simp only [List.mem_cons, List.not_mem_nil, or_false] at hq
    rcases hq with rfl | rfl | rfl | rfl | rfl | rfl
    · have c_1 := e.trans (show Int32.ofInt 0 = 0 by decide)
      refine z_aload_n hJ d_Mo_now_40 0 rfl ?_
      refine z_get hJ d_Mo_now_41 hc_Mo f_Mo_7 0 rfl rfl (by decide) ?_
      refine z_iconst (v := 0) hJ d_Mo_now_44 (by decide) ?_
      refine z_iald hJ d_Mo_now_45 1 (0) rfl rfl (by decide) (by decide) ?_
      refine z_c (y := P.1) hR0.1 ?_
      exact z_ri hR d_Mo_now_46 (by simp [p_now, c_1]; try rfl) (by simp [p_now, c_1])
    · have c_1 := e.trans (show Int32.ofInt 1 = 1 by decide)
      refine z_aload_n hJ d_Mo_now_47 0 rfl ?_
      refine z_callVi hJ (m_Mo_metNow7 (M := (x0, x1, 127, x3, x4, x5, x6, x7, x8, x9, x10, x11, x12, x13, x14, x15, x16, x17, x18, x19, x20)) hR0 hP hG rfl) k_Mo_143 zL_mv d_Mo_now_48 hc_Mo 0 rfl rfl rfl (Nat.le_of_ble_eq_true rfl) ⟨by decide, by decide⟩ ?_
      exact z_ri hR d_Mo_now_51 (by simp [p_now, c_1]; try rfl) (by simp [p_now, c_1])
    · have c_1 := e.trans (show Int32.ofInt 2 = 2 by decide)
      refine z_aload_n hJ d_Mo_now_52 0 rfl ?_
      refine z_callVi hJ (m_Mo_earned7 (M := (x0, x1, 127, x3, x4, x5, x6, x7, x8, x9, x10, x11, x12, x13, x14, x15, x16, x17, x18, x19, x20)) hR0 hP hG rfl) k_Mo_135 zL_mv d_Mo_now_53 hc_Mo 0 rfl rfl rfl (Nat.le_of_ble_eq_true rfl) ⟨by decide, by decide⟩ ?_
      exact z_ri hR d_Mo_now_56 (by simp [p_now, c_1]; try rfl) (by simp [p_now, c_1])
    · have c_1 := e.trans (show Int32.ofInt 3 = 3 by decide)
      refine z_aload_n hJ d_Mo_now_57 0 rfl ?_
      refine z_callVi hJ (m_Mo_sleepers (M := (x0, x1, 127, x3, x4, x5, x6, x7, x8, x9, x10, x11, x12, x13, x14, x15, x16, x17, x18, x19, x20)) hR0 hP hG) k_Mo_146 zL_mv d_Mo_now_58 hc_Mo 0 rfl rfl rfl (Nat.le_of_ble_eq_true rfl) ⟨by decide, by decide⟩ ?_
      exact z_ri hR d_Mo_now_61 (by simp [p_now, c_1]; try rfl) (by simp [p_now, c_1])
    · have c_1 := e.trans (show Int32.ofInt 4 = 4 by decide)
      refine z_aload_n hJ d_Mo_now_62 0 rfl ?_
      refine z_callVi hJ (m_Mo_spoiltOnes7 (M := (x0, x1, 127, x3, x4, x5, x6, x7, x8, x9, x10, x11, x12, x13, x14, x15, x16, x17, x18, x19, x20)) hR0 hP hG rfl) k_Mo_149 zL_mv d_Mo_now_63 hc_Mo 0 rfl rfl rfl (Nat.le_of_ble_eq_true rfl) ⟨by decide, by decide⟩ ?_
      exact z_ri hR d_Mo_now_66 (by simp [p_now, c_1]; try rfl) (by simp [p_now, c_1])
    · have c_1 := e.trans (show Int32.ofInt 5 = 5 by decide)
      refine z_aload_n hJ d_Mo_now_67 0 rfl ?_
      refine z_callVi hJ (m_Mo_span (M := (x0, x1, 127, x3, x4, x5, x6, x7, x8, x9, x10, x11, x12, x13, x14, x15, x16, x17, x18, x19, x20)) hR0 hP hG) k_Mo_152 zL_mv d_Mo_now_68 hc_Mo 0 rfl rfl rfl (Nat.le_of_ble_eq_true rfl) ⟨by decide, by decide⟩ ?_
      exact z_ri hR d_Mo_now_71 (by simp [p_now, c_1]; try rfl) (by simp [p_now, c_1])
  · skip
    have s_0 : ¬ w = 0 := fun e => by rw [e] at c_1; exact absurd c_1 (by decide)
    have s_1 : ¬ w = 1 := fun e => by rw [e] at c_1; exact absurd c_1 (by decide)
    have s_2 : ¬ w = 2 := fun e => by rw [e] at c_1; exact absurd c_1 (by decide)
    have s_3 : ¬ w = 3 := fun e => by rw [e] at c_1; exact absurd c_1 (by decide)
    have s_4 : ¬ w = 4 := fun e => by rw [e] at c_1; exact absurd c_1 (by decide)
    have s_5 : ¬ w = 5 := fun e => by rw [e] at c_1; exact absurd c_1 (by decide)
    refine z_aload_n hJ d_Mo_now_72 0 rfl ?_
    refine z_ldc hJ d_Mo_now_73 c_Mo_51 ?_
    refine z_callVi hJ m_Mo_finds_0 k_Mo_67 zL_mv d_Mo_now_75 hc_Mo 0 rfl rfl rfl (Nat.le_of_ble_eq_true rfl) ⟨by decide, by decide⟩ ?_
    exact z_ri hR d_Mo_now_78 (by simp [p_now, s_0, s_1, s_2, s_3, s_4, s_5, c_1]; try rfl) (by simp [p_now, s_0, s_1, s_2, s_3, s_4, s_5, c_1])
set_option maxRecDepth 100000 in
theorem m_Mo_missed {g : Nat → Nat → Nat} {a : Nat → Nat} {x0 : Nat → Int32} {x1 : Nat → Int32} {x3 : Nat → Int32} {x4 : Nat → Int32} {x5 : Nat → Int64} {x6 : Nat → Int32} {x7 : Nat} {x8 : Int32} {x9 : Nat} {x10 : Nat} {x11 : Int64} {x12 : Int32} {x13 : Bool} {x14 : Nat → Int32} {x15 : Nat → Int32} {x16 : Nat → Int64} {x17 : Nat → Int64} {x18 : Nat → Int32} {x19 : Nat → Int32} {x20 : Bool} {P : RS} {i : Int32} (hR0 : zRo P x0) (hP : zPi P) (hG : zRg P) : zM g y_Mo_missed b_Mo_missed 2 (some .int) 9 [.ref (a 0), .int i] (mV g a x0 x1 127 x3 x4 x5 x6 x7 x8 x9 x10 x11 x12 x13 x14 x15 x16 x17 x18 x19 x20) [.int (if q_ix i P.2.1 then q_earn P (q_awk P) - q_earn P (q_clr 127 i.toNatClampNeg &&& q_awk P) else (p_missed x1 P i).1)] (mV g a x0 ((p_missed x1 P i).2) 127 x3 x4 x5 x6 x7 x8 x9 x10 x11 x12 x13 x14 x15 x16 x17 x18 x19 x20) := by
  refine zMi (lv := [(0, .ref (a 0)), (1, .int i)]) (by decide) (Nat.le_of_ble_eq_true rfl) rfl (fun J hJ hR => ?_)
  rcases q_ix_or i (n := P.2.1) (by first | exact Nat.le_trans hP.1 (by decide) | exact hP.2.1) with ⟨j, hj, rfl⟩ | hq
  · have hj7 := hP.1
    have hj8 := hP.2.1
    have hq := q_ix_t hj (n := P.2.1) (by omega)
    have hcl : (nI j).toNatClampNeg = j := nI_clamp (by omega)
    refine z_aload_n hJ d_Mo_missed_0 0 rfl ?_
    refine z_iload_n hJ d_Mo_missed_1 1 rfl ?_
    refine z_callVi hJ (m_Mo_isOne (M := (x0, x1, 127, x3, x4, x5, x6, x7, x8, x9, x10, x11, x12, x13, x14, x15, x16, x17, x18, x19, x20)) hR0) k_Mo_96 zL_mv d_Mo_missed_2 hc_Mo 0 rfl rfl rfl (Nat.le_of_ble_eq_true rfl) ⟨by decide, by decide⟩ ?_
    refine zb_eq hJ d_Mo_missed_5 (fun c_5 => False.elim (by rw [hq] at c_5; exact absurd c_5 (by decide))) (fun c_5 => ?_)
    refine z_aload_n hJ d_Mo_missed_8 0 rfl ?_
    refine z_callVi hJ (m_Mo_earned7 (M := (x0, x1, 127, x3, x4, x5, x6, x7, x8, x9, x10, x11, x12, x13, x14, x15, x16, x17, x18, x19, x20)) hR0 hP hG rfl) k_Mo_135 zL_mv d_Mo_missed_9 hc_Mo 0 rfl rfl rfl (Nat.le_of_ble_eq_true rfl) ⟨by decide, by decide⟩ ?_
    refine z_aload_n hJ d_Mo_missed_12 0 rfl ?_
    refine z_bipush (v := 127) hJ d_Mo_missed_13 (by decide) ?_
    refine z_iconst (v := 1) hJ d_Mo_missed_15 (by decide) ?_
    refine z_iload_n hJ d_Mo_missed_16 1 rfl ?_
    refine z_ishl hJ d_Mo_missed_17 ?_
    refine z_iconst (v := (-1)) hJ d_Mo_missed_18 (by decide) ?_
    refine z_ixor hJ d_Mo_missed_19 ?_
    refine z_iand hJ d_Mo_missed_20 ?_
    refine z_c (q_clr_e (a := 127) (by omega)) ?_
    have hcr : q_clr 127 j ≤ 127 := Nat.and_le_left
    refine z_callVi hJ (m_Mo_earnedBy (M := (x0, x1, 127, x3, x4, x5, x6, x7, x8, x9, x10, x11, x12, x13, x14, x15, x16, x17, x18, x19, x20)) hR0 hP hG (by omega)) k_Mo_163 zL_mv d_Mo_missed_21 hc_Mo 0 rfl rfl rfl (Nat.le_of_ble_eq_true rfl) ⟨by decide, by decide⟩ ?_
    refine z_isub hJ d_Mo_missed_24 ?_
    refine z_goto hJ d_Mo_missed_25 ?_
    exact z_ri hR d_Mo_missed_34 (by simp [p_missed, hq, hcl, c_5]; try rfl) (by simp [p_missed, hq, hcl, c_5])
  · skip
    refine z_aload_n hJ d_Mo_missed_0 0 rfl ?_
    refine z_iload_n hJ d_Mo_missed_1 1 rfl ?_
    refine z_callVi hJ (m_Mo_isOne (M := (x0, x1, 127, x3, x4, x5, x6, x7, x8, x9, x10, x11, x12, x13, x14, x15, x16, x17, x18, x19, x20)) hR0) k_Mo_96 zL_mv d_Mo_missed_2 hc_Mo 0 rfl rfl rfl (Nat.le_of_ble_eq_true rfl) ⟨by decide, by decide⟩ ?_
    refine zb_eq hJ d_Mo_missed_5 (fun c_5 => ?_) (fun c_5 => False.elim (by rw [hq] at c_5; exact absurd c_5 (by decide)))
    refine z_aload_n hJ d_Mo_missed_28 0 rfl ?_
    refine z_ldc hJ d_Mo_missed_29 c_Mo_51 ?_
    refine z_callVi hJ m_Mo_finds_0 k_Mo_67 zL_mv d_Mo_missed_31 hc_Mo 0 rfl rfl rfl (Nat.le_of_ble_eq_true rfl) ⟨by decide, by decide⟩ ?_
    exact z_ri hR d_Mo_missed_34 (by simp [p_missed, hq, c_5]; try rfl) (by simp [p_missed, hq, c_5])
theorem q_subs {s z : Nat} (hs : s < 128) (h : s &&& q_not z = 0) : s &&& z = s := by
  apply Nat.eq_of_testBit_eq
  intro i
  have hb := congrArg (fun x => x.testBit i) h
  simp only [Nat.testBit_and, Nat.zero_testBit] at hb
  rw [Nat.testBit_and]
  by_cases hi : i < 32
  · rw [q_not_tb hi] at hb
    cases e1 : s.testBit i <;> cases e2 : z.testBit i <;> simp_all
  · rw [Nat.testBit_lt_two_pow (Nat.lt_of_lt_of_le hs (Nat.le_trans (show 128 ≤ 2 ^ 7 by decide) (Nat.pow_le_pow_right (by decide) (by omega))))]
    rfl
theorem q_subs2 {s z : Nat} (hs : s < 128) (h : s &&& z = s) : s &&& q_not z = 0 := by
  apply Nat.eq_of_testBit_eq
  intro i
  have hb := congrArg (fun x => x.testBit i) h
  simp only [Nat.testBit_and] at hb
  rw [Nat.testBit_and, Nat.zero_testBit]
  by_cases hi : i < 32
  · rw [q_not_tb hi]
    cases e1 : s.testBit i <;> cases e2 : z.testBit i <;> simp_all
  · rw [Nat.testBit_lt_two_pow (Nat.lt_of_lt_of_le hs (Nat.le_trans (show 128 ≤ 2 ^ 7 by decide) (Nat.pow_le_pow_right (by decide) (by omega))))]
    rfl
set_option maxRecDepth 100000 in
theorem m_Mo_bestSet {g : Nat → Nat → Nat} {a : Nat → Nat} {x0 : Nat → Int32} {x1 : Nat → Int32} {x3 : Nat → Int32} {x4 : Nat → Int32} {x5 : Nat → Int64} {x6 : Nat → Int32} {x7 : Nat} {x8 : Int32} {x9 : Nat} {x10 : Nat} {x11 : Int64} {x12 : Int32} {x13 : Bool} {x14 : Nat → Int32} {x15 : Nat → Int32} {x16 : Nat → Int64} {x17 : Nat → Int64} {x18 : Nat → Int32} {x19 : Nat → Int32} {x20 : Bool} {P : RS}  (hR0 : zRo P x0) (hP : zPi P) (hG : zRg P) : zM g y_Mo_bestSet b_Mo_bestSet 6 (some .int) 9 [.ref (a 0)] (mV g a x0 x1 127 x3 x4 x5 x6 x7 x8 x9 x10 x11 x12 x13 x14 x15 x16 x17 x18 x19 x20) [.int (nI (q_bs (fun s => q_earn P (s &&& q_awk P)) (q_awk P) 128).1)] (mV g a x0 x1 127 x3 x4 x5 x6 x7 x8 x9 x10 x11 x12 x13 x14 x15 x16 x17 x18 x19 x20) := by
  have hj7 := hP.1
  have hj8 := hP.2.1
  have ha7 := q_awk_128 hP.1
  refine zMi (lv := [(0, .ref (a 0))]) (by decide) (Nat.le_of_ble_eq_true rfl) rfl (fun J hJ hR => ?_)
  refine z_aload_n hJ d_Mo_bestSet_0 0 rfl ?_
  refine z_callVi hJ (m_Mo_awakeOnes (M := (x0, x1, 127, x3, x4, x5, x6, x7, x8, x9, x10, x11, x12, x13, x14, x15, x16, x17, x18, x19, x20)) hR0 hP hG) k_Mo_160 zL_mv d_Mo_bestSet_1 hc_Mo 0 rfl rfl rfl (Nat.le_of_ble_eq_true rfl) ⟨by decide, by decide⟩ ?_
  refine z_istore_n (lv' := [(0, _), (1, _)]) hJ d_Mo_bestSet_4 (by decide) rfl ?_
  refine z_iconst (v := 0) hJ d_Mo_bestSet_5 (by decide) ?_
  refine z_istore_n (lv' := [(0, _), (1, _), (2, _)]) hJ d_Mo_bestSet_6 (by decide) rfl ?_
  refine z_iconst (v := (-1)) hJ d_Mo_bestSet_7 (by decide) ?_
  refine z_istore_n (lv' := [(0, _), (1, _), (2, _), (3, _)]) hJ d_Mo_bestSet_8 (by decide) rfl ?_
  refine z_iconst (v := 0) hJ d_Mo_bestSet_9 (by decide) ?_
  refine z_istore (lv' := [(0, _), (1, _), (2, _), (3, _), (4, _)]) hJ d_Mo_bestSet_10 (by decide) rfl ?_
  have L12 : ∀ j : Nat, j ≤ 128 → J (mV g a x0 x1 127 x3 x4 x5 x6 x7 x8 x9 x10 x11 x12 x13 x14 x15 x16 x17 x18 x19 x20) 12 [(0, .ref (a 0)), (1, .int (nI (q_awk P))), (2, .int (nI (q_bs (fun s => q_earn P (s &&& q_awk P)) (q_awk P) j).1)), (3, .int (q_bs (fun s => q_earn P (s &&& q_awk P)) (q_awk P) j).2), (4, .int (nI j))] [] := by
    refine zloop (128) (fun j hjN ih => ?_)
    have hbl := q_bs_le (fun s => q_earn P (s &&& q_awk P)) (q_awk P) j
    refine z_iload hJ d_Mo_bestSet_12 4 rfl ?_
    refine z_bipush (v := 127) hJ d_Mo_bestSet_14 (by decide) ?_
    refine z_icmp_gt hJ d_Mo_bestSet_16 (fun c_16 => ?_) (fun c_16 => ?_)
    · skip
      try dsimp only at c_16
      have h_16 : 127 < j := by
        have e := nI_ltI (a := 127) (b := j) (by omega) (by omega)
        exact e.mp c_16
      obtain rfl : j = 128 := by omega
      refine z_iload_n hJ d_Mo_bestSet_75 2 rfl ?_
      exact z_ri hR d_Mo_bestSet_76 rfl rfl
    · skip
      try dsimp only at c_16
      have h_16 : ¬ (127 < j) := by
        have e := nI_ltI (a := 127) (b := j) (by omega) (by omega)
        exact fun q => c_16 (e.mpr q)
      refine z_iload hJ d_Mo_bestSet_19 4 rfl ?_
      refine z_iload_n hJ d_Mo_bestSet_21 1 rfl ?_
      refine z_iconst (v := (-1)) hJ d_Mo_bestSet_22 (by decide) ?_
      refine z_ixor hJ d_Mo_bestSet_23 ?_
      refine z_iand hJ d_Mo_bestSet_24 ?_
      refine z_c (y := nI (j &&& q_not (q_awk P))) (by rw [znot, zand]) ?_
      have hjl : j &&& q_not (q_awk P) ≤ j := Nat.and_le_left
      refine z_if_eq hJ d_Mo_bestSet_25 (fun c_25 => ?_) (fun c_25 => ?_)
      · skip
        try dsimp only at c_25
        have h_25 : (j &&& q_not (q_awk P)) = 0 := by
          have e := nI_eq (a := (j &&& q_not (q_awk P))) (b := 0) (by omega) (by omega)
          exact e.mp c_25
        have hsub : j &&& q_awk P = j := q_subs (by omega) h_25
        refine z_aload_n hJ d_Mo_bestSet_31 0 rfl ?_
        refine z_iload hJ d_Mo_bestSet_32 4 rfl ?_
        refine z_callVi hJ (m_Mo_earnedBy (M := (x0, x1, 127, x3, x4, x5, x6, x7, x8, x9, x10, x11, x12, x13, x14, x15, x16, x17, x18, x19, x20)) hR0 hP hG (by omega)) k_Mo_163 zL_mv d_Mo_bestSet_34 hc_Mo 0 rfl rfl rfl (Nat.le_of_ble_eq_true rfl) ⟨by decide, by decide⟩ ?_
        refine z_istore (lv' := [(0, _), (1, _), (2, _), (3, _), (4, _), (5, _)]) hJ d_Mo_bestSet_37 (by decide) rfl ?_
        refine z_iload hJ d_Mo_bestSet_39 5 rfl ?_
        refine z_iload_n hJ d_Mo_bestSet_41 3 rfl ?_
        refine z_icmp_gt hJ d_Mo_bestSet_42 (fun c_42 => ?_) (fun c_42 => ?_)
        · skip
          try dsimp only at c_42
          refine z_iload hJ d_Mo_bestSet_63 4 rfl ?_
          refine z_istore_n (lv' := [(0, _), (1, _), (2, _), (3, _), (4, _), (5, _)]) hJ d_Mo_bestSet_65 (by decide) rfl ?_
          refine z_iload hJ d_Mo_bestSet_66 5 rfl ?_
          refine z_istore_n (lv' := [(0, _), (1, _), (2, _), (3, _), (4, _), (5, _)]) hJ d_Mo_bestSet_68 (by decide) rfl ?_
          refine z_iinc (v := nI (j + 1)) (lv' := [(0, _), (1, _), (2, _), (3, _), (4, _), (5, _)]) hJ d_Mo_bestSet_69 4 rfl (zinc _) (by decide) rfl ?_
          refine z_goto hJ d_Mo_bestSet_72 ?_
          refine z_drop hJ [0, 1, 2, 3, 4] rfl ?_
          have e := ih (by omega)
          rw [q_bs_t (e := fun s => q_earn P (s &&& q_awk P)) ⟨hsub, Or.inl c_42⟩] at e
          exact e
        · skip
          try dsimp only at c_42
          refine z_iload hJ d_Mo_bestSet_45 5 rfl ?_
          refine z_iload_n hJ d_Mo_bestSet_47 3 rfl ?_
          refine z_icmp_ne hJ d_Mo_bestSet_48 (fun c_48 => ?_) (fun c_48 => ?_)
          · skip
            try dsimp only at c_48
            refine z_iinc (v := nI (j + 1)) (lv' := [(0, _), (1, _), (2, _), (3, _), (4, _), (5, _)]) hJ d_Mo_bestSet_69 4 rfl (zinc _) (by decide) rfl ?_
            refine z_goto hJ d_Mo_bestSet_72 ?_
            refine z_drop hJ [0, 1, 2, 3, 4] rfl ?_
            have e := ih (by omega)
            rw [q_bs_f (e := fun s => q_earn P (s &&& q_awk P)) (fun q => by first | exact hsub q.1 | exact q.2.elim (fun z => c_42 z) (fun z => by first | exact c_48 z.1 | (have z2 := z.2; rw [q_bc_bits (by omega), q_bc_bits (by omega)] at z2; exact z2 c_60)))] at e
            exact e
          · skip
            try dsimp only at c_48
            refine z_iload hJ d_Mo_bestSet_51 4 rfl ?_
            refine z_callSi hJ (m_Mo_bits (by omega)) k_Mo_166 zL.nil d_Mo_bestSet_53 rfl rfl (Nat.le_of_ble_eq_true rfl) ⟨by decide, by decide⟩ ?_
            refine z_iload_n hJ d_Mo_bestSet_56 2 rfl ?_
            refine z_callSi hJ (m_Mo_bits (by omega)) k_Mo_166 zL.nil d_Mo_bestSet_57 rfl rfl (Nat.le_of_ble_eq_true rfl) ⟨by decide, by decide⟩ ?_
            refine z_icmp_ge hJ d_Mo_bestSet_60 (fun c_60 => ?_) (fun c_60 => ?_)
            · skip
              try dsimp only at c_60
              refine z_iinc (v := nI (j + 1)) (lv' := [(0, _), (1, _), (2, _), (3, _), (4, _), (5, _)]) hJ d_Mo_bestSet_69 4 rfl (zinc _) (by decide) rfl ?_
              refine z_goto hJ d_Mo_bestSet_72 ?_
              refine z_drop hJ [0, 1, 2, 3, 4] rfl ?_
              have e := ih (by omega)
              rw [q_bs_f (e := fun s => q_earn P (s &&& q_awk P)) (fun q => by first | exact hsub q.1 | exact q.2.elim (fun z => c_42 z) (fun z => by first | exact c_48 z.1 | (have z2 := z.2; rw [q_bc_bits (by omega), q_bc_bits (by omega)] at z2; exact z2 c_60)))] at e
              exact e
            · skip
              try dsimp only at c_60
              refine z_iload hJ d_Mo_bestSet_63 4 rfl ?_
              refine z_istore_n (lv' := [(0, _), (1, _), (2, _), (3, _), (4, _), (5, _)]) hJ d_Mo_bestSet_65 (by decide) rfl ?_
              refine z_iload hJ d_Mo_bestSet_66 5 rfl ?_
              refine z_istore_n (lv' := [(0, _), (1, _), (2, _), (3, _), (4, _), (5, _)]) hJ d_Mo_bestSet_68 (by decide) rfl ?_
              refine z_iinc (v := nI (j + 1)) (lv' := [(0, _), (1, _), (2, _), (3, _), (4, _), (5, _)]) hJ d_Mo_bestSet_69 4 rfl (zinc _) (by decide) rfl ?_
              refine z_goto hJ d_Mo_bestSet_72 ?_
              refine z_drop hJ [0, 1, 2, 3, 4] rfl ?_
              have e := ih (by omega)
              rw [q_bs_t (e := fun s => q_earn P (s &&& q_awk P)) ⟨hsub, Or.inr ⟨c_48, by rw [q_bc_bits (by omega), q_bc_bits (by omega)]; exact c_60⟩⟩] at e
              exact e
      · skip
        try dsimp only at c_25
        have h_25 : ¬ ((j &&& q_not (q_awk P)) = 0) := by
          have e := nI_eq (a := (j &&& q_not (q_awk P))) (b := 0) (by omega) (by omega)
          exact fun q => c_25 (e.mpr q)
        have hsub : ¬ j &&& q_awk P = j := fun q => h_25 (q_subs2 (by omega) q)
        refine z_goto hJ d_Mo_bestSet_28 ?_
        refine z_iinc (v := nI (j + 1)) (lv' := [(0, _), (1, _), (2, _), (3, _), (4, _)]) hJ d_Mo_bestSet_69 4 rfl (zinc _) (by decide) rfl ?_
        refine z_goto hJ d_Mo_bestSet_72 ?_
        have e := ih (by omega)
        rw [q_bs_f (e := fun s => q_earn P (s &&& q_awk P)) (fun q => by first | exact hsub q.1 | exact q.2.elim (fun z => c_42 z) (fun z => by first | exact c_48 z.1 | (have z2 := z.2; rw [q_bc_bits (by omega), q_bc_bits (by omega)] at z2; exact z2 c_60)))] at e
        exact e
  exact L12 0 (Nat.zero_le _)
