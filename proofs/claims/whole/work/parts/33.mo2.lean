set_option maxRecDepth 100000 in
theorem m_Mo_earnedBy {g : Nat → Nat → Nat} {a : Nat → Nat} {M : MS} {P : RS} {s : Nat} (hR0 : zRo P M.1) (hP : zPi P) (hG : zRg P) (hs : s < 2 ^ 31) : zM g y_Mo_earnedBy b_Mo_earnedBy 3 (some .int) 8 [.ref (a 0), .int (nI s)] (mW g a M) [.int (q_earn P (s &&& q_awk P))] (mW g a (M.1, M.2.1, 127, M.2.2.2)) := by
  have hj7 := hP.1
  have hj8 := hP.2.1
  refine zMi (lv := [(0, .ref (a 0)), (1, .int (nI s))]) (by decide) (Nat.le_of_ble_eq_true rfl) rfl (fun J hJ hR => ?_)
  refine z_aload_n hJ d_Mo_earnedBy_0 0 rfl ?_
  refine z_iload_n hJ d_Mo_earnedBy_1 1 rfl ?_
  refine z_put (w' := mW g a (M.1, M.2.1, s, M.2.2.2.1, M.2.2.2.2.1, M.2.2.2.2.2.1, M.2.2.2.2.2.2.1, M.2.2.2.2.2.2.2.1, M.2.2.2.2.2.2.2.2.1, M.2.2.2.2.2.2.2.2.2.1, M.2.2.2.2.2.2.2.2.2.2.1, M.2.2.2.2.2.2.2.2.2.2.2.1, M.2.2.2.2.2.2.2.2.2.2.2.2.1, M.2.2.2.2.2.2.2.2.2.2.2.2.2.1, M.2.2.2.2.2.2.2.2.2.2.2.2.2.2.1, M.2.2.2.2.2.2.2.2.2.2.2.2.2.2.2.1, M.2.2.2.2.2.2.2.2.2.2.2.2.2.2.2.2.1, M.2.2.2.2.2.2.2.2.2.2.2.2.2.2.2.2.2.1, M.2.2.2.2.2.2.2.2.2.2.2.2.2.2.2.2.2.2.1, M.2.2.2.2.2.2.2.2.2.2.2.2.2.2.2.2.2.2.2.1, M.2.2.2.2.2.2.2.2.2.2.2.2.2.2.2.2.2.2.2.2)) hJ d_Mo_earnedBy_2 hc_Mo f_Mo_16 0 rfl rfl rfl rfl (by decide) (Nat.le_of_ble_eq_true rfl) rfl ?_
  refine z_aload_n hJ d_Mo_earnedBy_5 0 rfl ?_
  refine z_callVi hJ (m_Mo_earned (M := (M.1, M.2.1, s, M.2.2.2)) hR0 hP hG hs) k_Mo_135 zL.id d_Mo_earnedBy_6 hc_Mo 0 rfl rfl rfl (Nat.le_of_ble_eq_true rfl) ⟨by decide, by decide⟩ ?_
  refine z_istore_n (lv' := [(0, _), (1, _), (2, _)]) hJ d_Mo_earnedBy_9 (by decide) rfl ?_
  refine z_aload_n hJ d_Mo_earnedBy_10 0 rfl ?_
  refine z_bipush (v := 127) hJ d_Mo_earnedBy_11 (by decide) ?_
  refine z_put (w' := mW g a (M.1, M.2.1, 127, M.2.2.2.1, M.2.2.2.2.1, M.2.2.2.2.2.1, M.2.2.2.2.2.2.1, M.2.2.2.2.2.2.2.1, M.2.2.2.2.2.2.2.2.1, M.2.2.2.2.2.2.2.2.2.1, M.2.2.2.2.2.2.2.2.2.2.1, M.2.2.2.2.2.2.2.2.2.2.2.1, M.2.2.2.2.2.2.2.2.2.2.2.2.1, M.2.2.2.2.2.2.2.2.2.2.2.2.2.1, M.2.2.2.2.2.2.2.2.2.2.2.2.2.2.1, M.2.2.2.2.2.2.2.2.2.2.2.2.2.2.2.1, M.2.2.2.2.2.2.2.2.2.2.2.2.2.2.2.2.1, M.2.2.2.2.2.2.2.2.2.2.2.2.2.2.2.2.2.1, M.2.2.2.2.2.2.2.2.2.2.2.2.2.2.2.2.2.2.1, M.2.2.2.2.2.2.2.2.2.2.2.2.2.2.2.2.2.2.2.1, M.2.2.2.2.2.2.2.2.2.2.2.2.2.2.2.2.2.2.2.2)) hJ d_Mo_earnedBy_13 hc_Mo f_Mo_16 0 rfl rfl rfl rfl (by decide) (Nat.le_of_ble_eq_true rfl) rfl ?_
  refine z_iload_n hJ d_Mo_earnedBy_16 2 rfl ?_
  exact z_ri hR d_Mo_earnedBy_17 rfl rfl
set_option maxRecDepth 100000 in
theorem m_Mo_isMetBy {g : Nat → Nat → Nat} {a : Nat → Nat} {M : MS} {P : RS} {s t : Nat} (hR0 : zRo P M.1) (hP : zPi P) (hG : zRg P) (hs : s < 2 ^ 31) (ht : t < P.2.2.1) : zM g y_Mo_isMetBy b_Mo_isMetBy 4 (some .boolean) 8 [.ref (a 0), .int (nI s), .int (nI t)] (mW g a M) [.int (zB (q_isMet P (s &&& q_awk P) t))] (mW g a (M.1, M.2.1, 127, M.2.2.2)) := by
  have hj7 := hP.1
  have hj8 := hP.2.1
  refine zMz (lv := [(0, .ref (a 0)), (1, .int (nI s)), (2, .int (nI t))]) (by decide) (Nat.le_of_ble_eq_true rfl) rfl (fun J hJ hR => ?_)
  refine z_aload_n hJ d_Mo_isMetBy_0 0 rfl ?_
  refine z_iload_n hJ d_Mo_isMetBy_1 1 rfl ?_
  refine z_put (w' := mW g a (M.1, M.2.1, s, M.2.2.2.1, M.2.2.2.2.1, M.2.2.2.2.2.1, M.2.2.2.2.2.2.1, M.2.2.2.2.2.2.2.1, M.2.2.2.2.2.2.2.2.1, M.2.2.2.2.2.2.2.2.2.1, M.2.2.2.2.2.2.2.2.2.2.1, M.2.2.2.2.2.2.2.2.2.2.2.1, M.2.2.2.2.2.2.2.2.2.2.2.2.1, M.2.2.2.2.2.2.2.2.2.2.2.2.2.1, M.2.2.2.2.2.2.2.2.2.2.2.2.2.2.1, M.2.2.2.2.2.2.2.2.2.2.2.2.2.2.2.1, M.2.2.2.2.2.2.2.2.2.2.2.2.2.2.2.2.1, M.2.2.2.2.2.2.2.2.2.2.2.2.2.2.2.2.2.1, M.2.2.2.2.2.2.2.2.2.2.2.2.2.2.2.2.2.2.1, M.2.2.2.2.2.2.2.2.2.2.2.2.2.2.2.2.2.2.2.1, M.2.2.2.2.2.2.2.2.2.2.2.2.2.2.2.2.2.2.2.2)) hJ d_Mo_isMetBy_2 hc_Mo f_Mo_16 0 rfl rfl rfl rfl (by decide) (Nat.le_of_ble_eq_true rfl) rfl ?_
  refine z_aload_n hJ d_Mo_isMetBy_5 0 rfl ?_
  refine z_iload_n hJ d_Mo_isMetBy_6 2 rfl ?_
  refine z_callVi hJ (m_Mo_isMet (M := (M.1, M.2.1, s, M.2.2.2)) hR0 hP hG hs ht) k_Mo_129 zL.id d_Mo_isMetBy_7 hc_Mo 0 rfl rfl rfl (Nat.le_of_ble_eq_true rfl) ⟨by decide, by decide⟩ ?_
  refine z_istore_n (lv' := [(0, _), (1, _), (2, _), (3, _)]) hJ d_Mo_isMetBy_10 (by decide) rfl ?_
  refine z_aload_n hJ d_Mo_isMetBy_11 0 rfl ?_
  refine z_bipush (v := 127) hJ d_Mo_isMetBy_12 (by decide) ?_
  refine z_put (w' := mW g a (M.1, M.2.1, 127, M.2.2.2.1, M.2.2.2.2.1, M.2.2.2.2.2.1, M.2.2.2.2.2.2.1, M.2.2.2.2.2.2.2.1, M.2.2.2.2.2.2.2.2.1, M.2.2.2.2.2.2.2.2.2.1, M.2.2.2.2.2.2.2.2.2.2.1, M.2.2.2.2.2.2.2.2.2.2.2.1, M.2.2.2.2.2.2.2.2.2.2.2.2.1, M.2.2.2.2.2.2.2.2.2.2.2.2.2.1, M.2.2.2.2.2.2.2.2.2.2.2.2.2.2.1, M.2.2.2.2.2.2.2.2.2.2.2.2.2.2.2.1, M.2.2.2.2.2.2.2.2.2.2.2.2.2.2.2.2.1, M.2.2.2.2.2.2.2.2.2.2.2.2.2.2.2.2.2.1, M.2.2.2.2.2.2.2.2.2.2.2.2.2.2.2.2.2.2.1, M.2.2.2.2.2.2.2.2.2.2.2.2.2.2.2.2.2.2.2.1, M.2.2.2.2.2.2.2.2.2.2.2.2.2.2.2.2.2.2.2.2)) hJ d_Mo_isMetBy_14 hc_Mo f_Mo_16 0 rfl rfl rfl rfl (by decide) (Nat.le_of_ble_eq_true rfl) rfl ?_
  refine z_iload_n hJ d_Mo_isMetBy_17 3 rfl ?_
  exact z_ri hR d_Mo_isMetBy_18 rfl rfl
set_option maxRecDepth 100000 in
theorem m_Mo_sleepers {g : Nat → Nat → Nat} {a : Nat → Nat} {M : MS} {P : RS}  (hR0 : zRo P M.1) (hP : zPi P) (hG : zRg P) : zM g y_Mo_sleepers b_Mo_sleepers 3 (some .int) 1 [.ref (a 0)] (mW g a M) [.int (nI P.2.2.2.1)] (mW g a M) := by
  have hj7 := hP.1
  have hj8 := hP.2.1
  refine zMi (lv := [(0, .ref (a 0))]) (by decide) (Nat.le_of_ble_eq_true rfl) rfl (fun J hJ hR => ?_)
  refine z_iconst (v := 0) hJ d_Mo_sleepers_0 (by decide) ?_
  refine z_istore_n (lv' := [(0, _), (1, _)]) hJ d_Mo_sleepers_1 (by decide) rfl ?_
  refine z_iconst (v := 0) hJ d_Mo_sleepers_2 (by decide) ?_
  refine z_istore_n (lv' := [(0, _), (1, _), (2, _)]) hJ d_Mo_sleepers_3 (by decide) rfl ?_
  have L4 : ∀ j : Nat, j ≤ P.2.1 → J (mW g a M) 4 [(0, .ref (a 0)), (1, .int (nI (q_mask (fun i => P.2.2.2.1.testBit i) j))), (2, .int (nI j))] [] := by
    refine zloop (P.2.1) (fun j hjN ih => ?_)
    refine z_iload_n hJ d_Mo_sleepers_4 2 rfl ?_
    refine z_aload_n hJ d_Mo_sleepers_5 0 rfl ?_
    refine z_get hJ d_Mo_sleepers_6 hc_Mo f_Mo_7 0 rfl rfl (by decide) ?_
    refine z_iconst (v := 1) hJ d_Mo_sleepers_9 (by decide) ?_
    refine z_iald hJ d_Mo_sleepers_10 1 (1) rfl rfl (by decide) (by decide) ?_
    refine z_c (y := nI P.2.1) hR0.2.1 ?_
    refine z_icmp_ge hJ d_Mo_sleepers_11 (fun c_11 => ?_) (fun c_11 => ?_)
    · skip
      have h_11 : P.2.1 ≤ j := by
        have e := nI_leI (a := P.2.1) (b := j) (by omega) (by omega)
        exact e.mp c_11
      obtain rfl : j = P.2.1 := by omega
      refine z_iload_n hJ d_Mo_sleepers_31 1 rfl ?_
      exact z_ri hR d_Mo_sleepers_32 (by rw [q_mask_all hG.1]) rfl
    · skip
      have h_11 : ¬ (P.2.1 ≤ j) := by
        have e := nI_leI (a := P.2.1) (b := j) (by omega) (by omega)
        exact fun q => c_11 (e.mpr q)
      refine z_iload_n hJ d_Mo_sleepers_14 1 rfl ?_
      refine z_aload_n hJ d_Mo_sleepers_15 0 rfl ?_
      refine z_iload_n hJ d_Mo_sleepers_16 2 rfl ?_
      refine z_iconst (v := 4) hJ d_Mo_sleepers_17 (by decide) ?_
      refine z_callVi hJ (m_Mo_its4 hR0 (by omega)) k_Mo_76 zL.id d_Mo_sleepers_18 hc_Mo 0 rfl rfl rfl (Nat.le_of_ble_eq_true rfl) ⟨by decide, by decide⟩ ?_
      refine z_iload_n hJ d_Mo_sleepers_21 2 rfl ?_
      refine z_ishl hJ d_Mo_sleepers_22 ?_
      refine z_c (zsl (by omega)) ?_
      refine z_ior hJ d_Mo_sleepers_23 ?_
      refine z_c (y := nI (q_mask (fun i => P.2.2.2.1.testBit i) (j + 1))) (by rw [zor, q_mask_or]) ?_
      refine z_istore_n (lv' := [(0, _), (1, _), (2, _)]) hJ d_Mo_sleepers_24 (by decide) rfl ?_
      refine z_iinc (v := nI (j + 1)) (lv' := [(0, _), (1, _), (2, _)]) hJ d_Mo_sleepers_25 2 rfl (zinc _) (by decide) rfl ?_
      refine z_goto hJ d_Mo_sleepers_28 ?_
      exact ih (by omega)
  exact L4 0 (Nat.zero_le _)
set_option maxRecDepth 100000 in
theorem m_Mo_spoiltOnes {g : Nat → Nat → Nat} {a : Nat → Nat} {M : MS} {P : RS}  (hR0 : zRo P M.1) (hP : zPi P) (hG : zRg P) (ha : M.2.2.1 < 2 ^ 31) : zM g y_Mo_spoiltOnes b_Mo_spoiltOnes 3 (some .int) 4 [.ref (a 0)] (mW g a M) [.int (nI (q_spm P (M.2.2.1 &&& q_awk P)))] (mW g a M) := by
  have hj7 := hP.1
  have hj8 := hP.2.1
  refine zMi (lv := [(0, .ref (a 0))]) (by decide) (Nat.le_of_ble_eq_true rfl) rfl (fun J hJ hR => ?_)
  refine z_iconst (v := 0) hJ d_Mo_spoiltOnes_0 (by decide) ?_
  refine z_istore_n (lv' := [(0, _), (1, _)]) hJ d_Mo_spoiltOnes_1 (by decide) rfl ?_
  refine z_iconst (v := 0) hJ d_Mo_spoiltOnes_2 (by decide) ?_
  refine z_istore_n (lv' := [(0, _), (1, _), (2, _)]) hJ d_Mo_spoiltOnes_3 (by decide) rfl ?_
  have L4 : ∀ j : Nat, j ≤ P.2.1 → J (mW g a M) 4 [(0, .ref (a 0)), (1, .int (nI (q_mask (fun i => q_spoilt P (M.2.2.1 &&& q_awk P) i) j))), (2, .int (nI j))] [] := by
    refine zloop (P.2.1) (fun j hjN ih => ?_)
    refine z_iload_n hJ d_Mo_spoiltOnes_4 2 rfl ?_
    refine z_aload_n hJ d_Mo_spoiltOnes_5 0 rfl ?_
    refine z_get hJ d_Mo_spoiltOnes_6 hc_Mo f_Mo_7 0 rfl rfl (by decide) ?_
    refine z_iconst (v := 1) hJ d_Mo_spoiltOnes_9 (by decide) ?_
    refine z_iald hJ d_Mo_spoiltOnes_10 1 (1) rfl rfl (by decide) (by decide) ?_
    refine z_c (y := nI P.2.1) hR0.2.1 ?_
    refine z_icmp_ge hJ d_Mo_spoiltOnes_11 (fun c_11 => ?_) (fun c_11 => ?_)
    · skip
      have h_11 : P.2.1 ≤ j := by
        have e := nI_leI (a := P.2.1) (b := j) (by omega) (by omega)
        exact e.mp c_11
      obtain rfl : j = P.2.1 := by omega
      refine z_iload_n hJ d_Mo_spoiltOnes_38 1 rfl ?_
      exact z_ri hR d_Mo_spoiltOnes_39 rfl rfl
    · skip
      have h_11 : ¬ (P.2.1 ≤ j) := by
        have e := nI_leI (a := P.2.1) (b := j) (by omega) (by omega)
        exact fun q => c_11 (e.mpr q)
      refine z_iload_n hJ d_Mo_spoiltOnes_14 1 rfl ?_
      refine z_aload_n hJ d_Mo_spoiltOnes_15 0 rfl ?_
      refine z_iload_n hJ d_Mo_spoiltOnes_16 2 rfl ?_
      refine z_callVi hJ (m_Mo_isSpoilt hR0 hP hG ha (by omega)) k_Mo_99 zL.id d_Mo_spoiltOnes_17 hc_Mo 0 rfl rfl rfl (Nat.le_of_ble_eq_true rfl) ⟨by decide, by decide⟩ ?_
      refine zb_eq hJ d_Mo_spoiltOnes_20 (fun c_20 => ?_) (fun c_20 => ?_)
      · skip
        refine z_iconst (v := 0) hJ d_Mo_spoiltOnes_29 (by decide) ?_
        refine z_ior hJ d_Mo_spoiltOnes_30 ?_
        refine z_c (q_mask_f0 (f := (fun i => q_spoilt P (M.2.2.1 &&& q_awk P) i)) c_20) ?_
        refine z_istore_n (lv' := [(0, _), (1, _), (2, _)]) hJ d_Mo_spoiltOnes_31 (by decide) rfl ?_
        refine z_iinc (v := nI (j + 1)) (lv' := [(0, _), (1, _), (2, _)]) hJ d_Mo_spoiltOnes_32 2 rfl (zinc _) (by decide) rfl ?_
        refine z_goto hJ d_Mo_spoiltOnes_35 ?_
        exact ih (by omega)
      · skip
        refine z_iconst (v := 1) hJ d_Mo_spoiltOnes_23 (by decide) ?_
        refine z_iload_n hJ d_Mo_spoiltOnes_24 2 rfl ?_
        refine z_ishl hJ d_Mo_spoiltOnes_25 ?_
        refine z_goto hJ d_Mo_spoiltOnes_26 ?_
        refine z_ior hJ d_Mo_spoiltOnes_30 ?_
        refine z_c (q_mask_t (f := (fun i => q_spoilt P (M.2.2.1 &&& q_awk P) i)) c_20 (by omega)) ?_
        refine z_istore_n (lv' := [(0, _), (1, _), (2, _)]) hJ d_Mo_spoiltOnes_31 (by decide) rfl ?_
        refine z_iinc (v := nI (j + 1)) (lv' := [(0, _), (1, _), (2, _)]) hJ d_Mo_spoiltOnes_32 2 rfl (zinc _) (by decide) rfl ?_
        refine z_goto hJ d_Mo_spoiltOnes_35 ?_
        exact ih (by omega)
  exact L4 0 (Nat.zero_le _)
set_option maxRecDepth 100000 in
theorem m_Mo_span {g : Nat → Nat → Nat} {a : Nat → Nat} {M : MS} {P : RS}  (hR0 : zRo P M.1) (hP : zPi P) (hG : zRg P) : zM g y_Mo_span b_Mo_span 4 (some .int) 1 [.ref (a 0)] (mW g a M) [.int (if P.2.1 = 0 then 0 else (q_sp (rm P) P.2.1).2 - (q_sp (rm P) P.2.1).1)] (mW g a M) := by
  have hj7 := hP.1
  have hj8 := hP.2.1
  refine zMi (lv := [(0, .ref (a 0))]) (by decide) (Nat.le_of_ble_eq_true rfl) rfl (fun J hJ hR => ?_)
  refine z_bipush (v := 30) hJ d_Mo_span_0 (by decide) ?_
  refine z_istore_n (lv' := [(0, _), (1, _)]) hJ d_Mo_span_2 (by decide) rfl ?_
  refine z_iconst (v := 0) hJ d_Mo_span_3 (by decide) ?_
  refine z_istore_n (lv' := [(0, _), (1, _), (2, _)]) hJ d_Mo_span_4 (by decide) rfl ?_
  refine z_iconst (v := 0) hJ d_Mo_span_5 (by decide) ?_
  refine z_istore_n (lv' := [(0, _), (1, _), (2, _), (3, _)]) hJ d_Mo_span_6 (by decide) rfl ?_
  have L7 : ∀ j : Nat, j ≤ P.2.1 → J (mW g a M) 7 [(0, .ref (a 0)), (1, .int (q_sp (rm P) j).1), (2, .int (q_sp (rm P) j).2), (3, .int (nI j))] [] := by
    refine zloop (P.2.1) (fun j hjN ih => ?_)
    refine z_iload_n hJ d_Mo_span_7 3 rfl ?_
    refine z_aload_n hJ d_Mo_span_8 0 rfl ?_
    refine z_get hJ d_Mo_span_9 hc_Mo f_Mo_7 0 rfl rfl (by decide) ?_
    refine z_iconst (v := 1) hJ d_Mo_span_12 (by decide) ?_
    refine z_iald hJ d_Mo_span_13 1 (1) rfl rfl (by decide) (by decide) ?_
    refine z_c (y := nI P.2.1) hR0.2.1 ?_
    refine z_icmp_ge hJ d_Mo_span_14 (fun c_14 => ?_) (fun c_14 => ?_)
    · skip
      have h_14 : P.2.1 ≤ j := by
        have e := nI_leI (a := P.2.1) (b := j) (by omega) (by omega)
        exact e.mp c_14
      obtain rfl : j = P.2.1 := by omega
      refine z_aload_n hJ d_Mo_span_65 0 rfl ?_
      refine z_get hJ d_Mo_span_66 hc_Mo f_Mo_7 0 rfl rfl (by decide) ?_
      refine z_iconst (v := 1) hJ d_Mo_span_69 (by decide) ?_
      refine z_iald hJ d_Mo_span_70 1 (1) rfl rfl (by decide) (by decide) ?_
      refine z_c (y := nI P.2.1) hR0.2.1 ?_
      refine z_if_ne hJ d_Mo_span_71 (fun c_71 => ?_) (fun c_71 => ?_)
      · skip
        have h_71 : ¬ (P.2.1 = 0) := by
          have e := nI_eq (a := P.2.1) (b := 0) (by omega) (by omega)
          exact fun q => c_71 (e.mpr q)
        refine z_iload_n hJ d_Mo_span_78 2 rfl ?_
        refine z_iload_n hJ d_Mo_span_79 1 rfl ?_
        refine z_isub hJ d_Mo_span_80 ?_
        exact z_ri hR d_Mo_span_81 (by simp [h_71]) rfl
      · skip
        have h_71 : P.2.1 = 0 := by
          have e := nI_eq (a := P.2.1) (b := 0) (by omega) (by omega)
          exact e.mp c_71
        refine z_iconst (v := 0) hJ d_Mo_span_74 (by decide) ?_
        refine z_goto hJ d_Mo_span_75 ?_
        exact z_ri hR d_Mo_span_81 (by simp [h_71]) rfl
    · skip
      have h_14 : ¬ (P.2.1 ≤ j) := by
        have e := nI_leI (a := P.2.1) (b := j) (by omega) (by omega)
        exact fun q => c_14 (e.mpr q)
      refine z_aload_n hJ d_Mo_span_17 0 rfl ?_
      refine z_iload_n hJ d_Mo_span_18 3 rfl ?_
      refine z_iconst (v := 1) hJ d_Mo_span_19 (by decide) ?_
      refine z_callVi hJ (m_Mo_its1 hR0 (by omega)) k_Mo_76 zL.id d_Mo_span_20 hc_Mo 0 rfl rfl rfl (Nat.le_of_ble_eq_true rfl) ⟨by decide, by decide⟩ ?_
      refine z_iload_n hJ d_Mo_span_23 1 rfl ?_
      refine z_icmp_ge hJ d_Mo_span_24 (fun c_24 => ?_) (fun c_24 => ?_)
      · skip
        refine z_iload_n hJ d_Mo_span_36 1 rfl ?_
        refine z_istore_n (lv' := [(0, _), (1, _), (2, _), (3, _)]) hJ d_Mo_span_37 (by decide) rfl ?_
        refine z_aload_n hJ d_Mo_span_38 0 rfl ?_
        refine z_iload_n hJ d_Mo_span_39 3 rfl ?_
        refine z_iconst (v := 1) hJ d_Mo_span_40 (by decide) ?_
        refine z_callVi hJ (m_Mo_its1 hR0 (by omega)) k_Mo_76 zL.id d_Mo_span_41 hc_Mo 0 rfl rfl rfl (Nat.le_of_ble_eq_true rfl) ⟨by decide, by decide⟩ ?_
        refine z_iload_n hJ d_Mo_span_44 2 rfl ?_
        refine z_icmp_le hJ d_Mo_span_45 (fun c_45 => ?_) (fun c_45 => ?_)
        · skip
          refine z_iload_n hJ d_Mo_span_57 2 rfl ?_
          refine z_istore_n (lv' := [(0, _), (1, _), (2, _), (3, _)]) hJ d_Mo_span_58 (by decide) rfl ?_
          refine z_iinc (v := nI (j + 1)) (lv' := [(0, _), (1, _), (2, _), (3, _)]) hJ d_Mo_span_59 3 rfl (zinc _) (by decide) rfl ?_
          refine z_goto hJ d_Mo_span_62 ?_
          have e := ih (by omega)
          simp only [q_sp, if_pos c_24, if_pos c_45] at e
          exact e
        · skip
          refine z_aload_n hJ d_Mo_span_48 0 rfl ?_
          refine z_iload_n hJ d_Mo_span_49 3 rfl ?_
          refine z_iconst (v := 1) hJ d_Mo_span_50 (by decide) ?_
          refine z_callVi hJ (m_Mo_its1 hR0 (by omega)) k_Mo_76 zL.id d_Mo_span_51 hc_Mo 0 rfl rfl rfl (Nat.le_of_ble_eq_true rfl) ⟨by decide, by decide⟩ ?_
          refine z_goto hJ d_Mo_span_54 ?_
          refine z_istore_n (lv' := [(0, _), (1, _), (2, _), (3, _)]) hJ d_Mo_span_58 (by decide) rfl ?_
          refine z_iinc (v := nI (j + 1)) (lv' := [(0, _), (1, _), (2, _), (3, _)]) hJ d_Mo_span_59 3 rfl (zinc _) (by decide) rfl ?_
          refine z_goto hJ d_Mo_span_62 ?_
          have e := ih (by omega)
          simp only [q_sp, if_pos c_24, if_neg c_45] at e
          exact e
      · skip
        refine z_aload_n hJ d_Mo_span_27 0 rfl ?_
        refine z_iload_n hJ d_Mo_span_28 3 rfl ?_
        refine z_iconst (v := 1) hJ d_Mo_span_29 (by decide) ?_
        refine z_callVi hJ (m_Mo_its1 hR0 (by omega)) k_Mo_76 zL.id d_Mo_span_30 hc_Mo 0 rfl rfl rfl (Nat.le_of_ble_eq_true rfl) ⟨by decide, by decide⟩ ?_
        refine z_goto hJ d_Mo_span_33 ?_
        refine z_istore_n (lv' := [(0, _), (1, _), (2, _), (3, _)]) hJ d_Mo_span_37 (by decide) rfl ?_
        refine z_aload_n hJ d_Mo_span_38 0 rfl ?_
        refine z_iload_n hJ d_Mo_span_39 3 rfl ?_
        refine z_iconst (v := 1) hJ d_Mo_span_40 (by decide) ?_
        refine z_callVi hJ (m_Mo_its1 hR0 (by omega)) k_Mo_76 zL.id d_Mo_span_41 hc_Mo 0 rfl rfl rfl (Nat.le_of_ble_eq_true rfl) ⟨by decide, by decide⟩ ?_
        refine z_iload_n hJ d_Mo_span_44 2 rfl ?_
        refine z_icmp_le hJ d_Mo_span_45 (fun c_45 => ?_) (fun c_45 => ?_)
        · skip
          refine z_iload_n hJ d_Mo_span_57 2 rfl ?_
          refine z_istore_n (lv' := [(0, _), (1, _), (2, _), (3, _)]) hJ d_Mo_span_58 (by decide) rfl ?_
          refine z_iinc (v := nI (j + 1)) (lv' := [(0, _), (1, _), (2, _), (3, _)]) hJ d_Mo_span_59 3 rfl (zinc _) (by decide) rfl ?_
          refine z_goto hJ d_Mo_span_62 ?_
          have e := ih (by omega)
          simp only [q_sp, if_neg c_24, if_pos c_45] at e
          exact e
        · skip
          refine z_aload_n hJ d_Mo_span_48 0 rfl ?_
          refine z_iload_n hJ d_Mo_span_49 3 rfl ?_
          refine z_iconst (v := 1) hJ d_Mo_span_50 (by decide) ?_
          refine z_callVi hJ (m_Mo_its1 hR0 (by omega)) k_Mo_76 zL.id d_Mo_span_51 hc_Mo 0 rfl rfl rfl (Nat.le_of_ble_eq_true rfl) ⟨by decide, by decide⟩ ?_
          refine z_goto hJ d_Mo_span_54 ?_
          refine z_istore_n (lv' := [(0, _), (1, _), (2, _), (3, _)]) hJ d_Mo_span_58 (by decide) rfl ?_
          refine z_iinc (v := nI (j + 1)) (lv' := [(0, _), (1, _), (2, _), (3, _)]) hJ d_Mo_span_59 3 rfl (zinc _) (by decide) rfl ?_
          refine z_goto hJ d_Mo_span_62 ?_
          have e := ih (by omega)
          simp only [q_sp, if_neg c_24, if_neg c_45] at e
          exact e
  exact L7 0 (Nat.zero_le _)
set_option maxRecDepth 100000 in
theorem m_Mo_awakeOnes {g : Nat → Nat → Nat} {a : Nat → Nat} {M : MS} {P : RS}  (hR0 : zRo P M.1) (hP : zPi P) (hG : zRg P) : zM g y_Mo_awakeOnes b_Mo_awakeOnes 1 (some .int) 2 [.ref (a 0)] (mW g a M) [.int (nI (q_awk P))] (mW g a M) := by
  have hj7 := hP.1
  have hj8 := hP.2.1
  refine zMi (lv := [(0, .ref (a 0))]) (by decide) (Nat.le_of_ble_eq_true rfl) rfl (fun J hJ hR => ?_)
  refine z_iconst (v := 1) hJ d_Mo_awakeOnes_0 (by decide) ?_
  refine z_aload_n hJ d_Mo_awakeOnes_1 0 rfl ?_
  refine z_get hJ d_Mo_awakeOnes_2 hc_Mo f_Mo_7 0 rfl rfl (by decide) ?_
  refine z_iconst (v := 1) hJ d_Mo_awakeOnes_5 (by decide) ?_
  refine z_iald hJ d_Mo_awakeOnes_6 1 (1) rfl rfl (by decide) (by decide) ?_
  refine z_c (y := nI P.2.1) hR0.2.1 ?_
  refine z_ishl hJ d_Mo_awakeOnes_7 ?_
  refine z_iconst (v := 1) hJ d_Mo_awakeOnes_8 (by decide) ?_
  refine z_isub hJ d_Mo_awakeOnes_9 ?_
  refine z_aload_n hJ d_Mo_awakeOnes_10 0 rfl ?_
  refine z_callVi hJ (m_Mo_sleepers hR0 hP hG) k_Mo_146 zL.id d_Mo_awakeOnes_11 hc_Mo 0 rfl rfl rfl (Nat.le_of_ble_eq_true rfl) ⟨by decide, by decide⟩ ?_
  refine z_iconst (v := (-1)) hJ d_Mo_awakeOnes_14 (by decide) ?_
  refine z_ixor hJ d_Mo_awakeOnes_15 ?_
  refine z_iand hJ d_Mo_awakeOnes_16 ?_
  exact z_ri hR d_Mo_awakeOnes_17 (by rw [zshl1 (by omega), zsub1 (Nat.two_pow_pos _), znot, zand]; rfl) rfl
set_option maxRecDepth 100000 in
theorem m_Mo_moveAll_tried_k {g : Nat → Nat → Nat} {a : Nat → Nat} {x0 : Nat → Int32} {x1 : Nat → Int32} {x2 : Nat} {x3 : Nat → Int32} {x4 : Nat → Int32} {x5 : Nat → Int64} {x6 : Nat → Int32} {x7 : Nat} {x8 : Int32} {x9 : Nat} {x10 : Nat} {x11 : Int64} {x12 : Int32} {x13 : Bool} {x14 : Nat → Int32} {x15 : Nat → Int32} {x16 : Nat → Int64} {x17 : Nat → Int64} {x18 : Nat → Int32} {x19 : Nat → Int32} {x20 : Bool}  : zM g y_Mo_moveAll b_Mo_moveAll 4 none 0 [.ref (a 0), .int 1, .ref (a 3)] (mV g a x0 x1 x2 x3 x4 x5 x6 x7 x8 x9 x10 x11 x12 x13 x14 x15 x16 x17 x18 x19 x20) [] (mV g a x0 x1 x2 x0 x4 x5 x6 x7 x8 x9 x10 x11 x12 x13 x14 x15 x16 x17 x18 x19 x20) := by
  refine zMv (lv := [(0, .ref (a 0)), (1, .int 1), (2, .ref (a 3))]) (by decide) (Nat.le_of_ble_eq_true rfl) rfl (fun J hJ hR => ?_)
  refine z_iconst (v := 0) hJ d_Mo_moveAll_0 (by decide) ?_
  refine z_istore_n (lv' := [(0, _), (1, _), (2, _), (3, _)]) hJ d_Mo_moveAll_1 (by decide) rfl ?_
  have L2 : ∀ j : Nat, j ≤ 70 → ∀ F : Nat → Int32, (∀ x, x < j → F x = x0 x) → J (mV g a x0 x1 x2 F x4 x5 x6 x7 x8 x9 x10 x11 x12 x13 x14 x15 x16 x17 x18 x19 x20) 2 [(0, .ref (a 0)), (1, .int 1), (2, .ref (a 3)), (3, .int (nI j))] [] := by
    refine zloop (70) (fun j hjN ih => ?_)
    intro F hF
    refine z_iload_n hJ d_Mo_moveAll_2 3 rfl ?_
    refine z_bipush (v := 70) hJ d_Mo_moveAll_3 (by decide) ?_
    refine z_icmp_ge hJ d_Mo_moveAll_5 (fun c_5 => ?_) (fun c_5 => ?_)
    · skip
      try dsimp only at c_5
      have h_5 : 70 ≤ j := by
        have e := nI_leI (a := 70) (b := j) (by omega) (by omega)
        exact e.mp c_5
      obtain rfl : j = 70 := by omega
      refine z_arri (f := F) (f' := x0) (w' := mV g a x0 x1 x2 x0 x4 x5 x6 x7 x8 x9 x10 x11 x12 x13 x14 x15 x16 x17 x18 x19 x20) hJ 3 rfl hF rfl ?_
      exact z_rv hR d_Mo_moveAll_39 rfl
    · skip
      try dsimp only at c_5
      have h_5 : ¬ (70 ≤ j) := by
        have e := nI_leI (a := 70) (b := j) (by omega) (by omega)
        exact fun q => c_5 (e.mpr q)
      refine z_iload_n hJ d_Mo_moveAll_8 1 rfl ?_
      refine z_if_eq hJ d_Mo_moveAll_9 (fun c => absurd c (by decide)) (fun _ => ?_)
      refine z_aload_n hJ d_Mo_moveAll_12 2 rfl ?_
      refine z_iload_n hJ d_Mo_moveAll_13 3 rfl ?_
      refine z_aload_n hJ d_Mo_moveAll_14 0 rfl ?_
      refine z_get hJ d_Mo_moveAll_15 hc_Mo f_Mo_7 0 rfl rfl (by decide) ?_
      refine z_iload_n hJ d_Mo_moveAll_18 3 rfl ?_
      refine z_iald hJ d_Mo_moveAll_19 1 (j) rfl rfl (by omega) (by decide) ?_
      refine z_iast (w' := mV g a x0 x1 x2 (upd F (j) (x0 j)) x4 x5 x6 x7 x8 x9 x10 x11 x12 x13 x14 x15 x16 x17 x18 x19 x20) hJ d_Mo_moveAll_20 3 (j) rfl rfl (by omega) (by decide) rfl ?_
      refine z_goto hJ d_Mo_moveAll_21 ?_
      refine z_iinc (v := nI (j + 1)) (lv' := [(0, _), (1, _), (2, _), (3, _)]) hJ d_Mo_moveAll_33 3 rfl (zinc _) (by decide) rfl ?_
      refine z_goto hJ d_Mo_moveAll_36 ?_
      exact ih (by omega) _ (fun x hx => by
        unfold upd
        by_cases h : x = j
        · rw [if_pos h, h]
        · rw [if_neg h]; exact hF x (by omega))
  exact L2 0 (Nat.zero_le _) _ (fun x hx => absurd hx (Nat.not_lt_zero x))
set_option maxRecDepth 100000 in
theorem m_Mo_moveAll_tried_b {g : Nat → Nat → Nat} {a : Nat → Nat} {x0 : Nat → Int32} {x1 : Nat → Int32} {x2 : Nat} {x3 : Nat → Int32} {x4 : Nat → Int32} {x5 : Nat → Int64} {x6 : Nat → Int32} {x7 : Nat} {x8 : Int32} {x9 : Nat} {x10 : Nat} {x11 : Int64} {x12 : Int32} {x13 : Bool} {x14 : Nat → Int32} {x15 : Nat → Int32} {x16 : Nat → Int64} {x17 : Nat → Int64} {x18 : Nat → Int32} {x19 : Nat → Int32} {x20 : Bool}  : zM g y_Mo_moveAll b_Mo_moveAll 4 none 0 [.ref (a 0), .int 0, .ref (a 3)] (mV g a x0 x1 x2 x3 x4 x5 x6 x7 x8 x9 x10 x11 x12 x13 x14 x15 x16 x17 x18 x19 x20) [] (mV g a x3 x1 x2 x3 x4 x5 x6 x7 x8 x9 x10 x11 x12 x13 x14 x15 x16 x17 x18 x19 x20) := by
  refine zMv (lv := [(0, .ref (a 0)), (1, .int 0), (2, .ref (a 3))]) (by decide) (Nat.le_of_ble_eq_true rfl) rfl (fun J hJ hR => ?_)
  refine z_iconst (v := 0) hJ d_Mo_moveAll_0 (by decide) ?_
  refine z_istore_n (lv' := [(0, _), (1, _), (2, _), (3, _)]) hJ d_Mo_moveAll_1 (by decide) rfl ?_
  have L2 : ∀ j : Nat, j ≤ 70 → ∀ F : Nat → Int32, (∀ x, x < j → F x = x3 x) → J (mV g a F x1 x2 x3 x4 x5 x6 x7 x8 x9 x10 x11 x12 x13 x14 x15 x16 x17 x18 x19 x20) 2 [(0, .ref (a 0)), (1, .int 0), (2, .ref (a 3)), (3, .int (nI j))] [] := by
    refine zloop (70) (fun j hjN ih => ?_)
    intro F hF
    refine z_iload_n hJ d_Mo_moveAll_2 3 rfl ?_
    refine z_bipush (v := 70) hJ d_Mo_moveAll_3 (by decide) ?_
    refine z_icmp_ge hJ d_Mo_moveAll_5 (fun c_5 => ?_) (fun c_5 => ?_)
    · skip
      try dsimp only at c_5
      have h_5 : 70 ≤ j := by
        have e := nI_leI (a := 70) (b := j) (by omega) (by omega)
        exact e.mp c_5
      obtain rfl : j = 70 := by omega
      refine z_arri (f := F) (f' := x3) (w' := mV g a x3 x1 x2 x3 x4 x5 x6 x7 x8 x9 x10 x11 x12 x13 x14 x15 x16 x17 x18 x19 x20) hJ 1 rfl hF rfl ?_
      exact z_rv hR d_Mo_moveAll_39 rfl
    · skip
      try dsimp only at c_5
      have h_5 : ¬ (70 ≤ j) := by
        have e := nI_leI (a := 70) (b := j) (by omega) (by omega)
        exact fun q => c_5 (e.mpr q)
      refine z_iload_n hJ d_Mo_moveAll_8 1 rfl ?_
      refine z_if_eq hJ d_Mo_moveAll_9 (fun _ => ?_) (fun c => absurd c (by decide))
      refine z_aload_n hJ d_Mo_moveAll_24 0 rfl ?_
      refine z_get hJ d_Mo_moveAll_25 hc_Mo f_Mo_7 0 rfl rfl (by decide) ?_
      refine z_iload_n hJ d_Mo_moveAll_28 3 rfl ?_
      refine z_aload_n hJ d_Mo_moveAll_29 2 rfl ?_
      refine z_iload_n hJ d_Mo_moveAll_30 3 rfl ?_
      refine z_iald hJ d_Mo_moveAll_31 3 (j) rfl rfl (by omega) (by decide) ?_
      refine z_iast (w' := mV g a (upd F (j) (x3 j)) x1 x2 x3 x4 x5 x6 x7 x8 x9 x10 x11 x12 x13 x14 x15 x16 x17 x18 x19 x20) hJ d_Mo_moveAll_32 1 (j) rfl rfl (by omega) (by decide) rfl ?_
      refine z_iinc (v := nI (j + 1)) (lv' := [(0, _), (1, _), (2, _), (3, _)]) hJ d_Mo_moveAll_33 3 rfl (zinc _) (by decide) rfl ?_
      refine z_goto hJ d_Mo_moveAll_36 ?_
      exact ih (by omega) _ (fun x hx => by
        unfold upd
        by_cases h : x = j
        · rw [if_pos h, h]
        · rw [if_neg h]; exact hF x (by omega))
  exact L2 0 (Nat.zero_le _) _ (fun x hx => absurd hx (Nat.not_lt_zero x))
set_option maxRecDepth 100000 in
theorem m_Mo_moveAll_image_k {g : Nat → Nat → Nat} {a : Nat → Nat} {x0 : Nat → Int32} {x1 : Nat → Int32} {x2 : Nat} {x3 : Nat → Int32} {x4 : Nat → Int32} {x5 : Nat → Int64} {x6 : Nat → Int32} {x7 : Nat} {x8 : Int32} {x9 : Nat} {x10 : Nat} {x11 : Int64} {x12 : Int32} {x13 : Bool} {x14 : Nat → Int32} {x15 : Nat → Int32} {x16 : Nat → Int64} {x17 : Nat → Int64} {x18 : Nat → Int32} {x19 : Nat → Int32} {x20 : Bool}  : zM g y_Mo_moveAll b_Mo_moveAll 4 none 0 [.ref (a 0), .int 1, .ref (a 11)] (mV g a x0 x1 x2 x3 x4 x5 x6 x7 x8 x9 x10 x11 x12 x13 x14 x15 x16 x17 x18 x19 x20) [] (mV g a x0 x1 x2 x3 x4 x5 x6 x7 x8 x9 x10 x11 x12 x13 x14 x15 x16 x17 x0 x19 x20) := by
  refine zMv (lv := [(0, .ref (a 0)), (1, .int 1), (2, .ref (a 11))]) (by decide) (Nat.le_of_ble_eq_true rfl) rfl (fun J hJ hR => ?_)
  refine z_iconst (v := 0) hJ d_Mo_moveAll_0 (by decide) ?_
  refine z_istore_n (lv' := [(0, _), (1, _), (2, _), (3, _)]) hJ d_Mo_moveAll_1 (by decide) rfl ?_
  have L2 : ∀ j : Nat, j ≤ 70 → ∀ F : Nat → Int32, (∀ x, x < j → F x = x0 x) → J (mV g a x0 x1 x2 x3 x4 x5 x6 x7 x8 x9 x10 x11 x12 x13 x14 x15 x16 x17 F x19 x20) 2 [(0, .ref (a 0)), (1, .int 1), (2, .ref (a 11)), (3, .int (nI j))] [] := by
    refine zloop (70) (fun j hjN ih => ?_)
    intro F hF
    refine z_iload_n hJ d_Mo_moveAll_2 3 rfl ?_
    refine z_bipush (v := 70) hJ d_Mo_moveAll_3 (by decide) ?_
    refine z_icmp_ge hJ d_Mo_moveAll_5 (fun c_5 => ?_) (fun c_5 => ?_)
    · skip
      try dsimp only at c_5
      have h_5 : 70 ≤ j := by
        have e := nI_leI (a := 70) (b := j) (by omega) (by omega)
        exact e.mp c_5
      obtain rfl : j = 70 := by omega
      refine z_arri (f := F) (f' := x0) (w' := mV g a x0 x1 x2 x3 x4 x5 x6 x7 x8 x9 x10 x11 x12 x13 x14 x15 x16 x17 x0 x19 x20) hJ 11 rfl hF rfl ?_
      exact z_rv hR d_Mo_moveAll_39 rfl
    · skip
      try dsimp only at c_5
      have h_5 : ¬ (70 ≤ j) := by
        have e := nI_leI (a := 70) (b := j) (by omega) (by omega)
        exact fun q => c_5 (e.mpr q)
      refine z_iload_n hJ d_Mo_moveAll_8 1 rfl ?_
      refine z_if_eq hJ d_Mo_moveAll_9 (fun c => absurd c (by decide)) (fun _ => ?_)
      refine z_aload_n hJ d_Mo_moveAll_12 2 rfl ?_
      refine z_iload_n hJ d_Mo_moveAll_13 3 rfl ?_
      refine z_aload_n hJ d_Mo_moveAll_14 0 rfl ?_
      refine z_get hJ d_Mo_moveAll_15 hc_Mo f_Mo_7 0 rfl rfl (by decide) ?_
      refine z_iload_n hJ d_Mo_moveAll_18 3 rfl ?_
      refine z_iald hJ d_Mo_moveAll_19 1 (j) rfl rfl (by omega) (by decide) ?_
      refine z_iast (w' := mV g a x0 x1 x2 x3 x4 x5 x6 x7 x8 x9 x10 x11 x12 x13 x14 x15 x16 x17 (upd F (j) (x0 j)) x19 x20) hJ d_Mo_moveAll_20 11 (j) rfl rfl (by omega) (by decide) rfl ?_
      refine z_goto hJ d_Mo_moveAll_21 ?_
      refine z_iinc (v := nI (j + 1)) (lv' := [(0, _), (1, _), (2, _), (3, _)]) hJ d_Mo_moveAll_33 3 rfl (zinc _) (by decide) rfl ?_
      refine z_goto hJ d_Mo_moveAll_36 ?_
      exact ih (by omega) _ (fun x hx => by
        unfold upd
        by_cases h : x = j
        · rw [if_pos h, h]
        · rw [if_neg h]; exact hF x (by omega))
  exact L2 0 (Nat.zero_le _) _ (fun x hx => absurd hx (Nat.not_lt_zero x))
set_option maxRecDepth 100000 in
theorem m_Mo_moveAll_image_b {g : Nat → Nat → Nat} {a : Nat → Nat} {x0 : Nat → Int32} {x1 : Nat → Int32} {x2 : Nat} {x3 : Nat → Int32} {x4 : Nat → Int32} {x5 : Nat → Int64} {x6 : Nat → Int32} {x7 : Nat} {x8 : Int32} {x9 : Nat} {x10 : Nat} {x11 : Int64} {x12 : Int32} {x13 : Bool} {x14 : Nat → Int32} {x15 : Nat → Int32} {x16 : Nat → Int64} {x17 : Nat → Int64} {x18 : Nat → Int32} {x19 : Nat → Int32} {x20 : Bool}  : zM g y_Mo_moveAll b_Mo_moveAll 4 none 0 [.ref (a 0), .int 0, .ref (a 11)] (mV g a x0 x1 x2 x3 x4 x5 x6 x7 x8 x9 x10 x11 x12 x13 x14 x15 x16 x17 x18 x19 x20) [] (mV g a x18 x1 x2 x3 x4 x5 x6 x7 x8 x9 x10 x11 x12 x13 x14 x15 x16 x17 x18 x19 x20) := by
  refine zMv (lv := [(0, .ref (a 0)), (1, .int 0), (2, .ref (a 11))]) (by decide) (Nat.le_of_ble_eq_true rfl) rfl (fun J hJ hR => ?_)
  refine z_iconst (v := 0) hJ d_Mo_moveAll_0 (by decide) ?_
  refine z_istore_n (lv' := [(0, _), (1, _), (2, _), (3, _)]) hJ d_Mo_moveAll_1 (by decide) rfl ?_
  have L2 : ∀ j : Nat, j ≤ 70 → ∀ F : Nat → Int32, (∀ x, x < j → F x = x18 x) → J (mV g a F x1 x2 x3 x4 x5 x6 x7 x8 x9 x10 x11 x12 x13 x14 x15 x16 x17 x18 x19 x20) 2 [(0, .ref (a 0)), (1, .int 0), (2, .ref (a 11)), (3, .int (nI j))] [] := by
    refine zloop (70) (fun j hjN ih => ?_)
    intro F hF
    refine z_iload_n hJ d_Mo_moveAll_2 3 rfl ?_
    refine z_bipush (v := 70) hJ d_Mo_moveAll_3 (by decide) ?_
    refine z_icmp_ge hJ d_Mo_moveAll_5 (fun c_5 => ?_) (fun c_5 => ?_)
    · skip
      try dsimp only at c_5
      have h_5 : 70 ≤ j := by
        have e := nI_leI (a := 70) (b := j) (by omega) (by omega)
        exact e.mp c_5
      obtain rfl : j = 70 := by omega
      refine z_arri (f := F) (f' := x18) (w' := mV g a x18 x1 x2 x3 x4 x5 x6 x7 x8 x9 x10 x11 x12 x13 x14 x15 x16 x17 x18 x19 x20) hJ 1 rfl hF rfl ?_
      exact z_rv hR d_Mo_moveAll_39 rfl
    · skip
      try dsimp only at c_5
      have h_5 : ¬ (70 ≤ j) := by
        have e := nI_leI (a := 70) (b := j) (by omega) (by omega)
        exact fun q => c_5 (e.mpr q)
      refine z_iload_n hJ d_Mo_moveAll_8 1 rfl ?_
      refine z_if_eq hJ d_Mo_moveAll_9 (fun _ => ?_) (fun c => absurd c (by decide))
      refine z_aload_n hJ d_Mo_moveAll_24 0 rfl ?_
      refine z_get hJ d_Mo_moveAll_25 hc_Mo f_Mo_7 0 rfl rfl (by decide) ?_
      refine z_iload_n hJ d_Mo_moveAll_28 3 rfl ?_
      refine z_aload_n hJ d_Mo_moveAll_29 2 rfl ?_
      refine z_iload_n hJ d_Mo_moveAll_30 3 rfl ?_
      refine z_iald hJ d_Mo_moveAll_31 11 (j) rfl rfl (by omega) (by decide) ?_
      refine z_iast (w' := mV g a (upd F (j) (x18 j)) x1 x2 x3 x4 x5 x6 x7 x8 x9 x10 x11 x12 x13 x14 x15 x16 x17 x18 x19 x20) hJ d_Mo_moveAll_32 1 (j) rfl rfl (by omega) (by decide) rfl ?_
      refine z_iinc (v := nI (j + 1)) (lv' := [(0, _), (1, _), (2, _), (3, _)]) hJ d_Mo_moveAll_33 3 rfl (zinc _) (by decide) rfl ?_
      refine z_goto hJ d_Mo_moveAll_36 ?_
      exact ih (by omega) _ (fun x hx => by
        unfold upd
        by_cases h : x = j
        · rw [if_pos h, h]
        · rw [if_neg h]; exact hF x (by omega))
  exact L2 0 (Nat.zero_le _) _ (fun x hx => absurd hx (Nat.not_lt_zero x))
set_option maxRecDepth 100000 in
theorem m_Mo_moveAll_before_k {g : Nat → Nat → Nat} {a : Nat → Nat} {x0 : Nat → Int32} {x1 : Nat → Int32} {x2 : Nat} {x3 : Nat → Int32} {x4 : Nat → Int32} {x5 : Nat → Int64} {x6 : Nat → Int32} {x7 : Nat} {x8 : Int32} {x9 : Nat} {x10 : Nat} {x11 : Int64} {x12 : Int32} {x13 : Bool} {x14 : Nat → Int32} {x15 : Nat → Int32} {x16 : Nat → Int64} {x17 : Nat → Int64} {x18 : Nat → Int32} {x19 : Nat → Int32} {x20 : Bool}  : zM g y_Mo_moveAll b_Mo_moveAll 4 none 0 [.ref (a 0), .int 1, .ref (a 12)] (mV g a x0 x1 x2 x3 x4 x5 x6 x7 x8 x9 x10 x11 x12 x13 x14 x15 x16 x17 x18 x19 x20) [] (mV g a x0 x1 x2 x3 x4 x5 x6 x7 x8 x9 x10 x11 x12 x13 x14 x15 x16 x17 x18 x0 x20) := by
  refine zMv (lv := [(0, .ref (a 0)), (1, .int 1), (2, .ref (a 12))]) (by decide) (Nat.le_of_ble_eq_true rfl) rfl (fun J hJ hR => ?_)
  refine z_iconst (v := 0) hJ d_Mo_moveAll_0 (by decide) ?_
  refine z_istore_n (lv' := [(0, _), (1, _), (2, _), (3, _)]) hJ d_Mo_moveAll_1 (by decide) rfl ?_
  have L2 : ∀ j : Nat, j ≤ 70 → ∀ F : Nat → Int32, (∀ x, x < j → F x = x0 x) → J (mV g a x0 x1 x2 x3 x4 x5 x6 x7 x8 x9 x10 x11 x12 x13 x14 x15 x16 x17 x18 F x20) 2 [(0, .ref (a 0)), (1, .int 1), (2, .ref (a 12)), (3, .int (nI j))] [] := by
    refine zloop (70) (fun j hjN ih => ?_)
    intro F hF
    refine z_iload_n hJ d_Mo_moveAll_2 3 rfl ?_
    refine z_bipush (v := 70) hJ d_Mo_moveAll_3 (by decide) ?_
    refine z_icmp_ge hJ d_Mo_moveAll_5 (fun c_5 => ?_) (fun c_5 => ?_)
    · skip
      try dsimp only at c_5
      have h_5 : 70 ≤ j := by
        have e := nI_leI (a := 70) (b := j) (by omega) (by omega)
        exact e.mp c_5
      obtain rfl : j = 70 := by omega
      refine z_arri (f := F) (f' := x0) (w' := mV g a x0 x1 x2 x3 x4 x5 x6 x7 x8 x9 x10 x11 x12 x13 x14 x15 x16 x17 x18 x0 x20) hJ 12 rfl hF rfl ?_
      exact z_rv hR d_Mo_moveAll_39 rfl
    · skip
      try dsimp only at c_5
      have h_5 : ¬ (70 ≤ j) := by
        have e := nI_leI (a := 70) (b := j) (by omega) (by omega)
        exact fun q => c_5 (e.mpr q)
      refine z_iload_n hJ d_Mo_moveAll_8 1 rfl ?_
      refine z_if_eq hJ d_Mo_moveAll_9 (fun c => absurd c (by decide)) (fun _ => ?_)
      refine z_aload_n hJ d_Mo_moveAll_12 2 rfl ?_
      refine z_iload_n hJ d_Mo_moveAll_13 3 rfl ?_
      refine z_aload_n hJ d_Mo_moveAll_14 0 rfl ?_
      refine z_get hJ d_Mo_moveAll_15 hc_Mo f_Mo_7 0 rfl rfl (by decide) ?_
      refine z_iload_n hJ d_Mo_moveAll_18 3 rfl ?_
      refine z_iald hJ d_Mo_moveAll_19 1 (j) rfl rfl (by omega) (by decide) ?_
      refine z_iast (w' := mV g a x0 x1 x2 x3 x4 x5 x6 x7 x8 x9 x10 x11 x12 x13 x14 x15 x16 x17 x18 (upd F (j) (x0 j)) x20) hJ d_Mo_moveAll_20 12 (j) rfl rfl (by omega) (by decide) rfl ?_
      refine z_goto hJ d_Mo_moveAll_21 ?_
      refine z_iinc (v := nI (j + 1)) (lv' := [(0, _), (1, _), (2, _), (3, _)]) hJ d_Mo_moveAll_33 3 rfl (zinc _) (by decide) rfl ?_
      refine z_goto hJ d_Mo_moveAll_36 ?_
      exact ih (by omega) _ (fun x hx => by
        unfold upd
        by_cases h : x = j
        · rw [if_pos h, h]
        · rw [if_neg h]; exact hF x (by omega))
  exact L2 0 (Nat.zero_le _) _ (fun x hx => absurd hx (Nat.not_lt_zero x))
set_option maxRecDepth 100000 in
theorem m_Mo_moveAll_before_b {g : Nat → Nat → Nat} {a : Nat → Nat} {x0 : Nat → Int32} {x1 : Nat → Int32} {x2 : Nat} {x3 : Nat → Int32} {x4 : Nat → Int32} {x5 : Nat → Int64} {x6 : Nat → Int32} {x7 : Nat} {x8 : Int32} {x9 : Nat} {x10 : Nat} {x11 : Int64} {x12 : Int32} {x13 : Bool} {x14 : Nat → Int32} {x15 : Nat → Int32} {x16 : Nat → Int64} {x17 : Nat → Int64} {x18 : Nat → Int32} {x19 : Nat → Int32} {x20 : Bool}  : zM g y_Mo_moveAll b_Mo_moveAll 4 none 0 [.ref (a 0), .int 0, .ref (a 12)] (mV g a x0 x1 x2 x3 x4 x5 x6 x7 x8 x9 x10 x11 x12 x13 x14 x15 x16 x17 x18 x19 x20) [] (mV g a x19 x1 x2 x3 x4 x5 x6 x7 x8 x9 x10 x11 x12 x13 x14 x15 x16 x17 x18 x19 x20) := by
  refine zMv (lv := [(0, .ref (a 0)), (1, .int 0), (2, .ref (a 12))]) (by decide) (Nat.le_of_ble_eq_true rfl) rfl (fun J hJ hR => ?_)
  refine z_iconst (v := 0) hJ d_Mo_moveAll_0 (by decide) ?_
  refine z_istore_n (lv' := [(0, _), (1, _), (2, _), (3, _)]) hJ d_Mo_moveAll_1 (by decide) rfl ?_
  have L2 : ∀ j : Nat, j ≤ 70 → ∀ F : Nat → Int32, (∀ x, x < j → F x = x19 x) → J (mV g a F x1 x2 x3 x4 x5 x6 x7 x8 x9 x10 x11 x12 x13 x14 x15 x16 x17 x18 x19 x20) 2 [(0, .ref (a 0)), (1, .int 0), (2, .ref (a 12)), (3, .int (nI j))] [] := by
    refine zloop (70) (fun j hjN ih => ?_)
    intro F hF
    refine z_iload_n hJ d_Mo_moveAll_2 3 rfl ?_
    refine z_bipush (v := 70) hJ d_Mo_moveAll_3 (by decide) ?_
    refine z_icmp_ge hJ d_Mo_moveAll_5 (fun c_5 => ?_) (fun c_5 => ?_)
    · skip
      try dsimp only at c_5
      have h_5 : 70 ≤ j := by
        have e := nI_leI (a := 70) (b := j) (by omega) (by omega)
        exact e.mp c_5
      obtain rfl : j = 70 := by omega
      refine z_arri (f := F) (f' := x19) (w' := mV g a x19 x1 x2 x3 x4 x5 x6 x7 x8 x9 x10 x11 x12 x13 x14 x15 x16 x17 x18 x19 x20) hJ 1 rfl hF rfl ?_
      exact z_rv hR d_Mo_moveAll_39 rfl
    · skip
      try dsimp only at c_5
      have h_5 : ¬ (70 ≤ j) := by
        have e := nI_leI (a := 70) (b := j) (by omega) (by omega)
        exact fun q => c_5 (e.mpr q)
      refine z_iload_n hJ d_Mo_moveAll_8 1 rfl ?_
      refine z_if_eq hJ d_Mo_moveAll_9 (fun _ => ?_) (fun c => absurd c (by decide))
      refine z_aload_n hJ d_Mo_moveAll_24 0 rfl ?_
      refine z_get hJ d_Mo_moveAll_25 hc_Mo f_Mo_7 0 rfl rfl (by decide) ?_
      refine z_iload_n hJ d_Mo_moveAll_28 3 rfl ?_
      refine z_aload_n hJ d_Mo_moveAll_29 2 rfl ?_
      refine z_iload_n hJ d_Mo_moveAll_30 3 rfl ?_
      refine z_iald hJ d_Mo_moveAll_31 12 (j) rfl rfl (by omega) (by decide) ?_
      refine z_iast (w' := mV g a (upd F (j) (x19 j)) x1 x2 x3 x4 x5 x6 x7 x8 x9 x10 x11 x12 x13 x14 x15 x16 x17 x18 x19 x20) hJ d_Mo_moveAll_32 1 (j) rfl rfl (by omega) (by decide) rfl ?_
      refine z_iinc (v := nI (j + 1)) (lv' := [(0, _), (1, _), (2, _), (3, _)]) hJ d_Mo_moveAll_33 3 rfl (zinc _) (by decide) rfl ?_
      refine z_goto hJ d_Mo_moveAll_36 ?_
      exact ih (by omega) _ (fun x hx => by
        unfold upd
        by_cases h : x = j
        · rw [if_pos h, h]
        · rw [if_neg h]; exact hF x (by omega))
  exact L2 0 (Nat.zero_le _) _ (fun x hx => absurd hx (Nat.not_lt_zero x))
set_option maxRecDepth 100000 in
theorem m_Mo_paceOf_r {g : Nat → Nat → Nat} {a : Nat → Nat} {M : MS} {p : Nat} (hp : p < 7) : zM g y_Mo_paceOf b_Mo_paceOf 3 (some .int) 1 [.ref (a 0), .int (nI p)] (mW g a M) [.int (q_pace (M.1 (3 + 5 * p + 0)))] (mW g a M) := by
  refine zMi (lv := [(0, .ref (a 0)), (1, .int (nI p))]) (by decide) (Nat.le_of_ble_eq_true rfl) rfl (fun J hJ hR => ?_)
  refine z_aload_n hJ d_Mo_paceOf_0 0 rfl ?_
  refine z_iload_n hJ d_Mo_paceOf_1 1 rfl ?_
  refine z_iconst (v := 0) hJ d_Mo_paceOf_2 (by decide) ?_
  refine z_callVi hJ (m_Mo_its (w := 0) hp (by decide)) k_Mo_76 zL.id d_Mo_paceOf_3 hc_Mo 0 rfl rfl rfl (Nat.le_of_ble_eq_true rfl) ⟨by decide, by decide⟩ ?_
  refine z_istore_n (lv' := [(0, _), (1, _), (2, _)]) hJ d_Mo_paceOf_6 (by decide) rfl ?_
  refine z_iload_n hJ d_Mo_paceOf_7 2 rfl ?_
  refine z_iconst (v := 1) hJ d_Mo_paceOf_8 (by decide) ?_
  refine z_icmp_ne hJ d_Mo_paceOf_9 (fun c_9 => ?_) (fun c_9 => ?_)
  · skip
    refine z_iload_n hJ d_Mo_paceOf_16 2 rfl ?_
    refine z_iconst (v := 4) hJ d_Mo_paceOf_17 (by decide) ?_
    refine z_icmp_ne hJ d_Mo_paceOf_18 (fun c_18 => ?_) (fun c_18 => ?_)
    · skip
      refine z_iconst (v := 1) hJ d_Mo_paceOf_26 (by decide) ?_
      exact z_ri hR d_Mo_paceOf_27 (by unfold q_pace; rw [if_neg c_9, if_neg c_18]) rfl
    · skip
      refine z_bipush (v := 6) hJ d_Mo_paceOf_21 (by decide) ?_
      refine z_goto hJ d_Mo_paceOf_23 ?_
      exact z_ri hR d_Mo_paceOf_27 (by unfold q_pace; rw [if_neg c_9, if_pos c_18]) rfl
  · skip
    refine z_iconst (v := 3) hJ d_Mo_paceOf_12 (by decide) ?_
    refine z_goto hJ d_Mo_paceOf_13 ?_
    exact z_ri hR d_Mo_paceOf_27 (by unfold q_pace; rw [if_pos c_9]) rfl
set_option maxRecDepth 100000 in
theorem m_Mo_oneHour {g : Nat → Nat → Nat} {a : Nat → Nat} {x0 : Nat → Int32} {x1 : Nat → Int32} {x2 : Nat} {x3 : Nat → Int32} {x4 : Nat → Int32} {x5 : Nat → Int64} {x6 : Nat → Int32} {x7 : Nat} {x8 : Int32} {x9 : Nat} {x10 : Nat} {x11 : Int64} {x12 : Int32} {x13 : Bool} {x14 : Nat → Int32} {x15 : Nat → Int32} {x16 : Nat → Int64} {x17 : Nat → Int64} {x18 : Nat → Int32} {x19 : Nat → Int32} {x20 : Bool} {n : Nat} (hn : x0 1 = nI n) (hn7 : n ≤ 7) : zM g y_Mo_oneHour b_Mo_oneHour 4 none 2 [.ref (a 0)] (mV g a x0 x1 x2 x3 x4 x5 x6 x7 x8 x9 x10 x11 x12 x13 x14 x15 x16 x17 x18 x19 x20) [] (mV g a (q_hr x0 n) x1 x2 x3 x4 x5 x6 x7 x8 x9 x10 x11 x12 x13 x14 x15 x16 x17 x18 x19 x20) := by
  refine zMv (lv := [(0, .ref (a 0))]) (by decide) (Nat.le_of_ble_eq_true rfl) rfl (fun J hJ hR => ?_)
  refine z_iconst (v := 0) hJ d_Mo_oneHour_0 (by decide) ?_
  refine z_istore_n (lv' := [(0, _), (1, _)]) hJ d_Mo_oneHour_1 (by decide) rfl ?_
  have L2 : ∀ j : Nat, j ≤ n → J (mV g a (q_hr x0 j) x1 x2 x3 x4 x5 x6 x7 x8 x9 x10 x11 x12 x13 x14 x15 x16 x17 x18 x19 x20) 2 [(0, .ref (a 0)), (1, .int (nI j))] [] := by
    refine zloop (n) (fun j hjN ih => ?_)
    refine z_iload_n hJ d_Mo_oneHour_2 1 rfl ?_
    refine z_aload_n hJ d_Mo_oneHour_3 0 rfl ?_
    refine z_get hJ d_Mo_oneHour_4 hc_Mo f_Mo_7 0 rfl rfl (by decide) ?_
    refine z_iconst (v := 1) hJ d_Mo_oneHour_7 (by decide) ?_
    refine z_iald hJ d_Mo_oneHour_8 1 (1) rfl rfl (by decide) (by decide) ?_
    refine z_c (y := nI n) ((q_hr_1 x0 j).trans hn) ?_
    refine z_icmp_ge hJ d_Mo_oneHour_9 (fun c_9 => ?_) (fun c_9 => ?_)
    · skip
      try dsimp only at c_9
      have h_9 : n ≤ j := by
        have e := nI_leI (a := n) (b := j) (by omega) (by omega)
        exact e.mp c_9
      obtain rfl : j = n := by omega
      exact z_rv hR d_Mo_oneHour_86 rfl
    · skip
      try dsimp only at c_9
      have h_9 : ¬ (n ≤ j) := by
        have e := nI_leI (a := n) (b := j) (by omega) (by omega)
        exact fun q => c_9 (e.mpr q)
      refine z_aload_n hJ d_Mo_oneHour_12 0 rfl ?_
      refine z_iload_n hJ d_Mo_oneHour_13 1 rfl ?_
      refine z_iconst (v := 4) hJ d_Mo_oneHour_14 (by decide) ?_
      refine z_callVi hJ (m_Mo_its (p := j) (w := 4) (by omega) (by decide)) k_Mo_76 zL_mv d_Mo_oneHour_15 hc_Mo 0 rfl rfl rfl (Nat.le_of_ble_eq_true rfl) ⟨by decide, by decide⟩ ?_
      refine z_iconst (v := 1) hJ d_Mo_oneHour_18 (by decide) ?_
      refine z_icmp_ne hJ d_Mo_oneHour_19 (fun c_19 => ?_) (fun c_19 => ?_)
      · skip
        try dsimp only at c_19
        refine z_aload_n hJ d_Mo_oneHour_26 0 rfl ?_
        refine z_iload_n hJ d_Mo_oneHour_27 1 rfl ?_
        refine z_iconst (v := 2) hJ d_Mo_oneHour_28 (by decide) ?_
        refine z_callVi hJ (m_Mo_its (p := j) (w := 2) (by omega) (by decide)) k_Mo_76 zL_mv d_Mo_oneHour_29 hc_Mo 0 rfl rfl rfl (Nat.le_of_ble_eq_true rfl) ⟨by decide, by decide⟩ ?_
        refine z_aload_n hJ d_Mo_oneHour_32 0 rfl ?_
        refine z_iload_n hJ d_Mo_oneHour_33 1 rfl ?_
        refine z_iconst (v := 1) hJ d_Mo_oneHour_34 (by decide) ?_
        refine z_callVi hJ (m_Mo_its (p := j) (w := 1) (by omega) (by decide)) k_Mo_76 zL_mv d_Mo_oneHour_35 hc_Mo 0 rfl rfl rfl (Nat.le_of_ble_eq_true rfl) ⟨by decide, by decide⟩ ?_
        refine z_isub hJ d_Mo_oneHour_38 ?_
        refine z_istore_n (lv' := [(0, _), (1, _), (2, _)]) hJ d_Mo_oneHour_39 (by decide) rfl ?_
        refine z_aload_n hJ d_Mo_oneHour_40 0 rfl ?_
        refine z_iload_n hJ d_Mo_oneHour_41 1 rfl ?_
        refine z_callVi hJ (m_Mo_paceOf_r (p := j) (by omega)) k_Mo_102 zL_mv d_Mo_oneHour_42 hc_Mo 0 rfl rfl rfl (Nat.le_of_ble_eq_true rfl) ⟨by decide, by decide⟩ ?_
        refine z_istore_n (lv' := [(0, _), (1, _), (2, _), (3, _)]) hJ d_Mo_oneHour_45 (by decide) rfl ?_
        refine z_aload_n hJ d_Mo_oneHour_46 0 rfl ?_
        refine z_iload_n hJ d_Mo_oneHour_47 1 rfl ?_
        refine z_iconst (v := 1) hJ d_Mo_oneHour_48 (by decide) ?_
        refine z_aload_n hJ d_Mo_oneHour_49 0 rfl ?_
        refine z_iload_n hJ d_Mo_oneHour_50 1 rfl ?_
        refine z_iconst (v := 1) hJ d_Mo_oneHour_51 (by decide) ?_
        refine z_callVi hJ (m_Mo_its (p := j) (w := 1) (by omega) (by decide)) k_Mo_76 zL_mv d_Mo_oneHour_52 hc_Mo 0 rfl rfl rfl (Nat.le_of_ble_eq_true rfl) ⟨by decide, by decide⟩ ?_
        refine z_iload_n hJ d_Mo_oneHour_55 2 rfl ?_
        refine z_iload_n hJ d_Mo_oneHour_56 3 rfl ?_
        refine z_icmp_le hJ d_Mo_oneHour_57 (fun c_57 => ?_) (fun c_57 => ?_)
        · skip
          try dsimp only at c_57
          skip
          refine z_iload_n hJ d_Mo_oneHour_64 2 rfl ?_
          refine z_iload_n hJ d_Mo_oneHour_65 3 rfl ?_
          refine z_ineg hJ d_Mo_oneHour_66 ?_
          refine z_icmp_ge hJ d_Mo_oneHour_67 (fun c_67 => ?_) (fun c_67 => ?_)
          · skip
            try dsimp only at c_67
            refine z_iload_n hJ d_Mo_oneHour_75 2 rfl ?_
            refine z_iadd hJ d_Mo_oneHour_76 ?_
            refine z_callVv hJ (m_Mo_puts (p := j) (w := 1) (by omega) (by decide)) k_Mo_56 zL_mv d_Mo_oneHour_77 hc_Mo 0 rfl rfl rfl (Nat.le_of_ble_eq_true rfl) ⟨by decide, by decide⟩ ?_
            refine z_iinc (v := nI (j + 1)) (lv' := [(0, _), (1, _), (2, _), (3, _)]) hJ d_Mo_oneHour_80 1 rfl (zinc _) (by decide) rfl ?_
            refine z_goto hJ d_Mo_oneHour_83 ?_
            refine z_drop hJ [0, 1] rfl ?_
            have e := ih (by omega)
            refine z_w ?_ e
            dsimp only
            rw [q_hr, q_stp, if_neg c_19, if_pos c_57, if_pos c_67]
          · skip
            try dsimp only at c_67
            refine z_iload_n hJ d_Mo_oneHour_70 3 rfl ?_
            refine z_ineg hJ d_Mo_oneHour_71 ?_
            refine z_goto hJ d_Mo_oneHour_72 ?_
            refine z_iadd hJ d_Mo_oneHour_76 ?_
            refine z_callVv hJ (m_Mo_puts (p := j) (w := 1) (by omega) (by decide)) k_Mo_56 zL_mv d_Mo_oneHour_77 hc_Mo 0 rfl rfl rfl (Nat.le_of_ble_eq_true rfl) ⟨by decide, by decide⟩ ?_
            refine z_iinc (v := nI (j + 1)) (lv' := [(0, _), (1, _), (2, _), (3, _)]) hJ d_Mo_oneHour_80 1 rfl (zinc _) (by decide) rfl ?_
            refine z_goto hJ d_Mo_oneHour_83 ?_
            refine z_drop hJ [0, 1] rfl ?_
            have e := ih (by omega)
            refine z_w ?_ e
            dsimp only
            rw [q_hr, q_stp, if_neg c_19, if_pos c_57, if_neg c_67]
        · skip
          try dsimp only at c_57
          skip
          refine z_iload_n hJ d_Mo_oneHour_60 3 rfl ?_
          refine z_goto hJ d_Mo_oneHour_61 ?_
          refine z_iadd hJ d_Mo_oneHour_76 ?_
          refine z_callVv hJ (m_Mo_puts (p := j) (w := 1) (by omega) (by decide)) k_Mo_56 zL_mv d_Mo_oneHour_77 hc_Mo 0 rfl rfl rfl (Nat.le_of_ble_eq_true rfl) ⟨by decide, by decide⟩ ?_
          refine z_iinc (v := nI (j + 1)) (lv' := [(0, _), (1, _), (2, _), (3, _)]) hJ d_Mo_oneHour_80 1 rfl (zinc _) (by decide) rfl ?_
          refine z_goto hJ d_Mo_oneHour_83 ?_
          refine z_drop hJ [0, 1] rfl ?_
          have e := ih (by omega)
          refine z_w ?_ e
          dsimp only
          rw [q_hr, q_stp, if_neg c_19, if_neg c_57]
      · skip
        try dsimp only at c_19
        refine z_iconst (v := 0) hJ d_Mo_oneHour_22 (by decide) ?_
        refine z_goto hJ d_Mo_oneHour_23 ?_
        refine z_istore_n (lv' := [(0, _), (1, _), (2, _)]) hJ d_Mo_oneHour_39 (by decide) rfl ?_
        refine z_aload_n hJ d_Mo_oneHour_40 0 rfl ?_
        refine z_iload_n hJ d_Mo_oneHour_41 1 rfl ?_
        refine z_callVi hJ (m_Mo_paceOf_r (p := j) (by omega)) k_Mo_102 zL_mv d_Mo_oneHour_42 hc_Mo 0 rfl rfl rfl (Nat.le_of_ble_eq_true rfl) ⟨by decide, by decide⟩ ?_
        refine z_istore_n (lv' := [(0, _), (1, _), (2, _), (3, _)]) hJ d_Mo_oneHour_45 (by decide) rfl ?_
        refine z_aload_n hJ d_Mo_oneHour_46 0 rfl ?_
        refine z_iload_n hJ d_Mo_oneHour_47 1 rfl ?_
        refine z_iconst (v := 1) hJ d_Mo_oneHour_48 (by decide) ?_
        refine z_aload_n hJ d_Mo_oneHour_49 0 rfl ?_
        refine z_iload_n hJ d_Mo_oneHour_50 1 rfl ?_
        refine z_iconst (v := 1) hJ d_Mo_oneHour_51 (by decide) ?_
        refine z_callVi hJ (m_Mo_its (p := j) (w := 1) (by omega) (by decide)) k_Mo_76 zL_mv d_Mo_oneHour_52 hc_Mo 0 rfl rfl rfl (Nat.le_of_ble_eq_true rfl) ⟨by decide, by decide⟩ ?_
        refine z_iload_n hJ d_Mo_oneHour_55 2 rfl ?_
        refine z_iload_n hJ d_Mo_oneHour_56 3 rfl ?_
        refine z_icmp_le hJ d_Mo_oneHour_57 (fun c_57 => ?_) (fun c_57 => ?_)
        · skip
          try dsimp only at c_57
          skip
          refine z_iload_n hJ d_Mo_oneHour_64 2 rfl ?_
          refine z_iload_n hJ d_Mo_oneHour_65 3 rfl ?_
          refine z_ineg hJ d_Mo_oneHour_66 ?_
          refine z_icmp_ge hJ d_Mo_oneHour_67 (fun c_67 => ?_) (fun c_67 => ?_)
          · skip
            try dsimp only at c_67
            refine z_iload_n hJ d_Mo_oneHour_75 2 rfl ?_
            refine z_iadd hJ d_Mo_oneHour_76 ?_
            refine z_callVv hJ (m_Mo_puts (p := j) (w := 1) (by omega) (by decide)) k_Mo_56 zL_mv d_Mo_oneHour_77 hc_Mo 0 rfl rfl rfl (Nat.le_of_ble_eq_true rfl) ⟨by decide, by decide⟩ ?_
            refine z_iinc (v := nI (j + 1)) (lv' := [(0, _), (1, _), (2, _), (3, _)]) hJ d_Mo_oneHour_80 1 rfl (zinc _) (by decide) rfl ?_
            refine z_goto hJ d_Mo_oneHour_83 ?_
            refine z_drop hJ [0, 1] rfl ?_
            have e := ih (by omega)
            refine z_w ?_ e
            dsimp only
            rw [q_hr, q_stp, if_pos c_19, if_pos c_57, if_pos c_67]
          · skip
            try dsimp only at c_67
            refine z_iload_n hJ d_Mo_oneHour_70 3 rfl ?_
            refine z_ineg hJ d_Mo_oneHour_71 ?_
            refine z_goto hJ d_Mo_oneHour_72 ?_
            refine z_iadd hJ d_Mo_oneHour_76 ?_
            refine z_callVv hJ (m_Mo_puts (p := j) (w := 1) (by omega) (by decide)) k_Mo_56 zL_mv d_Mo_oneHour_77 hc_Mo 0 rfl rfl rfl (Nat.le_of_ble_eq_true rfl) ⟨by decide, by decide⟩ ?_
            refine z_iinc (v := nI (j + 1)) (lv' := [(0, _), (1, _), (2, _), (3, _)]) hJ d_Mo_oneHour_80 1 rfl (zinc _) (by decide) rfl ?_
            refine z_goto hJ d_Mo_oneHour_83 ?_
            refine z_drop hJ [0, 1] rfl ?_
            have e := ih (by omega)
            refine z_w ?_ e
            dsimp only
            rw [q_hr, q_stp, if_pos c_19, if_pos c_57, if_neg c_67]
        · skip
          try dsimp only at c_57
          skip
          refine z_iload_n hJ d_Mo_oneHour_60 3 rfl ?_
          refine z_goto hJ d_Mo_oneHour_61 ?_
          refine z_iadd hJ d_Mo_oneHour_76 ?_
          refine z_callVv hJ (m_Mo_puts (p := j) (w := 1) (by omega) (by decide)) k_Mo_56 zL_mv d_Mo_oneHour_77 hc_Mo 0 rfl rfl rfl (Nat.le_of_ble_eq_true rfl) ⟨by decide, by decide⟩ ?_
          refine z_iinc (v := nI (j + 1)) (lv' := [(0, _), (1, _), (2, _), (3, _)]) hJ d_Mo_oneHour_80 1 rfl (zinc _) (by decide) rfl ?_
          refine z_goto hJ d_Mo_oneHour_83 ?_
          refine z_drop hJ [0, 1] rfl ?_
          have e := ih (by omega)
          refine z_w ?_ e
          dsimp only
          rw [q_hr, q_stp, if_pos c_19, if_neg c_57]
  exact L2 0 (Nat.zero_le _)
set_option maxRecDepth 100000 in
theorem m_Mo_addOne {g : Nat → Nat → Nat} {a : Nat → Nat} {M : MS} {n : Nat} {k m gl s z : Int32} (hn : M.1 1 = nI n) (hn7 : n < 7) : zM g y_Mo_addOne b_Mo_addOne 7 none 1 [.ref (a 0), .int k, .int m, .int gl, .int s, .int z] (mW g a M) [] (mW g a (q_ad M.1 n k m gl s z, M.2)) := by
  refine zMv (lv := [(0, .ref (a 0)), (1, .int k), (2, .int m), (3, .int gl), (4, .int s), (5, .int z)]) (by decide) (Nat.le_of_ble_eq_true rfl) rfl (fun J hJ hR => ?_)
  refine z_aload_n hJ d_Mo_addOne_0 0 rfl ?_
  refine z_get hJ d_Mo_addOne_1 hc_Mo f_Mo_7 0 rfl rfl (by decide) ?_
  refine z_iconst (v := 1) hJ d_Mo_addOne_4 (by decide) ?_
  refine z_iald hJ d_Mo_addOne_5 1 (1) rfl rfl (by decide) (by decide) ?_
  refine z_c (y := nI n) hn ?_
  refine z_istore (lv' := [(0, _), (1, _), (2, _), (3, _), (4, _), (5, _), (6, _)]) hJ d_Mo_addOne_6 (by decide) rfl ?_
  refine z_aload_n hJ d_Mo_addOne_8 0 rfl ?_
  refine z_iload hJ d_Mo_addOne_9 6 rfl ?_
  refine z_iconst (v := 0) hJ d_Mo_addOne_11 (by decide) ?_
  refine z_iload_n hJ d_Mo_addOne_12 1 rfl ?_
  refine z_callVv hJ (m_Mo_puts (p := n) (w := 0) (by omega) (by decide)) k_Mo_56 zL.id d_Mo_addOne_13 hc_Mo 0 rfl rfl rfl (Nat.le_of_ble_eq_true rfl) ⟨by decide, by decide⟩ ?_
  refine z_aload_n hJ d_Mo_addOne_16 0 rfl ?_
  refine z_iload hJ d_Mo_addOne_17 6 rfl ?_
  refine z_iconst (v := 1) hJ d_Mo_addOne_19 (by decide) ?_
  refine z_iload_n hJ d_Mo_addOne_20 2 rfl ?_
  refine z_callVv hJ (m_Mo_puts (p := n) (w := 1) (by omega) (by decide)) k_Mo_56 zL.id d_Mo_addOne_21 hc_Mo 0 rfl rfl rfl (Nat.le_of_ble_eq_true rfl) ⟨by decide, by decide⟩ ?_
  refine z_aload_n hJ d_Mo_addOne_24 0 rfl ?_
  refine z_iload hJ d_Mo_addOne_25 6 rfl ?_
  refine z_iconst (v := 2) hJ d_Mo_addOne_27 (by decide) ?_
  refine z_iload_n hJ d_Mo_addOne_28 3 rfl ?_
  refine z_callVv hJ (m_Mo_puts (p := n) (w := 2) (by omega) (by decide)) k_Mo_56 zL.id d_Mo_addOne_29 hc_Mo 0 rfl rfl rfl (Nat.le_of_ble_eq_true rfl) ⟨by decide, by decide⟩ ?_
  refine z_aload_n hJ d_Mo_addOne_32 0 rfl ?_
  refine z_iload hJ d_Mo_addOne_33 6 rfl ?_
  refine z_iconst (v := 3) hJ d_Mo_addOne_35 (by decide) ?_
  refine z_iload hJ d_Mo_addOne_36 4 rfl ?_
  refine z_callVv hJ (m_Mo_puts (p := n) (w := 3) (by omega) (by decide)) k_Mo_56 zL.id d_Mo_addOne_38 hc_Mo 0 rfl rfl rfl (Nat.le_of_ble_eq_true rfl) ⟨by decide, by decide⟩ ?_
  refine z_aload_n hJ d_Mo_addOne_41 0 rfl ?_
  refine z_iload hJ d_Mo_addOne_42 6 rfl ?_
  refine z_iconst (v := 4) hJ d_Mo_addOne_44 (by decide) ?_
  refine z_iload hJ d_Mo_addOne_45 5 rfl ?_
  refine z_callVv hJ (m_Mo_puts (p := n) (w := 4) (by omega) (by decide)) k_Mo_56 zL.id d_Mo_addOne_47 hc_Mo 0 rfl rfl rfl (Nat.le_of_ble_eq_true rfl) ⟨by decide, by decide⟩ ?_
  refine z_aload_n hJ d_Mo_addOne_50 0 rfl ?_
  refine z_get hJ d_Mo_addOne_51 hc_Mo f_Mo_7 0 rfl rfl (by decide) ?_
  refine z_iconst (v := 1) hJ d_Mo_addOne_54 (by decide) ?_
  refine z_dup2 hJ d_Mo_addOne_55 rfl rfl ?_
  refine z_iald hJ d_Mo_addOne_56 1 (1) rfl rfl (by decide) (by decide) ?_
  refine z_c (y := nI n) (by simp only [upd_ne (show ¬ 1 = 3 + 5 * n + 0 by omega), upd_ne (show ¬ 1 = 3 + 5 * n + 1 by omega), upd_ne (show ¬ 1 = 3 + 5 * n + 2 by omega), upd_ne (show ¬ 1 = 3 + 5 * n + 3 by omega), upd_ne (show ¬ 1 = 3 + 5 * n + 4 by omega)]; exact hn) ?_
  refine z_iconst (v := 1) hJ d_Mo_addOne_57 (by decide) ?_
  refine z_iadd hJ d_Mo_addOne_58 ?_
  refine z_c (y := nI (n + 1)) (nI_1 _) ?_
  refine z_iast (w' := mW g a (upd (upd (upd (upd (upd (upd M.1 (3 + 5 * n + 0) k) (3 + 5 * n + 1) m) (3 + 5 * n + 2) gl) (3 + 5 * n + 3) s) (3 + 5 * n + 4) z) (1) (nI (n + 1)), ((upd M.1 (3 + 5 * n + 0) k, M.2)).2.1, ((upd M.1 (3 + 5 * n + 0) k, M.2)).2.2.1, ((upd M.1 (3 + 5 * n + 0) k, M.2)).2.2.2.1, ((upd M.1 (3 + 5 * n + 0) k, M.2)).2.2.2.2.1, ((upd M.1 (3 + 5 * n + 0) k, M.2)).2.2.2.2.2.1, ((upd M.1 (3 + 5 * n + 0) k, M.2)).2.2.2.2.2.2.1, ((upd M.1 (3 + 5 * n + 0) k, M.2)).2.2.2.2.2.2.2.1, ((upd M.1 (3 + 5 * n + 0) k, M.2)).2.2.2.2.2.2.2.2.1, ((upd M.1 (3 + 5 * n + 0) k, M.2)).2.2.2.2.2.2.2.2.2.1, ((upd M.1 (3 + 5 * n + 0) k, M.2)).2.2.2.2.2.2.2.2.2.2.1, ((upd M.1 (3 + 5 * n + 0) k, M.2)).2.2.2.2.2.2.2.2.2.2.2.1, ((upd M.1 (3 + 5 * n + 0) k, M.2)).2.2.2.2.2.2.2.2.2.2.2.2.1, ((upd M.1 (3 + 5 * n + 0) k, M.2)).2.2.2.2.2.2.2.2.2.2.2.2.2.1, ((upd M.1 (3 + 5 * n + 0) k, M.2)).2.2.2.2.2.2.2.2.2.2.2.2.2.2.1, ((upd M.1 (3 + 5 * n + 0) k, M.2)).2.2.2.2.2.2.2.2.2.2.2.2.2.2.2.1, ((upd M.1 (3 + 5 * n + 0) k, M.2)).2.2.2.2.2.2.2.2.2.2.2.2.2.2.2.2.1, ((upd M.1 (3 + 5 * n + 0) k, M.2)).2.2.2.2.2.2.2.2.2.2.2.2.2.2.2.2.2.1, ((upd M.1 (3 + 5 * n + 0) k, M.2)).2.2.2.2.2.2.2.2.2.2.2.2.2.2.2.2.2.2.1, ((upd M.1 (3 + 5 * n + 0) k, M.2)).2.2.2.2.2.2.2.2.2.2.2.2.2.2.2.2.2.2.2.1, ((upd M.1 (3 + 5 * n + 0) k, M.2)).2.2.2.2.2.2.2.2.2.2.2.2.2.2.2.2.2.2.2.2)) hJ d_Mo_addOne_59 1 (1) rfl rfl (by decide) (by decide) rfl ?_
  exact z_rv hR d_Mo_addOne_60 rfl
set_option maxRecDepth 100000 in
theorem m_Mo_addTask {g : Nat → Nat → Nat} {a : Nat → Nat} {M : MS} {n : Nat} {so m ne pa : Int32} (hn : M.1 2 = nI n) (hn7 : n < 8) : zM g y_Mo_addTask b_Mo_addTask 6 none 0 [.ref (a 0), .int so, .int m, .int ne, .int pa] (mW g a M) [] (mW g a (q_at M.1 n so m ne pa, M.2)) := by
  refine zMv (lv := [(0, .ref (a 0)), (1, .int so), (2, .int m), (3, .int ne), (4, .int pa)]) (by decide) (Nat.le_of_ble_eq_true rfl) rfl (fun J hJ hR => ?_)
  refine z_bipush (v := 38) hJ d_Mo_addTask_0 (by decide) ?_
  refine z_iconst (v := 4) hJ d_Mo_addTask_2 (by decide) ?_
  refine z_aload_n hJ d_Mo_addTask_3 0 rfl ?_
  refine z_get hJ d_Mo_addTask_4 hc_Mo f_Mo_7 0 rfl rfl (by decide) ?_
  refine z_iconst (v := 2) hJ d_Mo_addTask_7 (by decide) ?_
  refine z_iald hJ d_Mo_addTask_8 1 (2) rfl rfl (by decide) (by decide) ?_
  refine z_c (y := nI n) hn ?_
  refine z_imul hJ d_Mo_addTask_9 ?_
  refine z_iadd hJ d_Mo_addTask_10 ?_
  refine z_c (y := nI (38 + 4 * n)) (by rw [show (38 : Int32) = nI 38 from rfl, show (4 : Int32) = nI 4 from rfl, pk_mul, nI_add]) ?_
  refine z_istore (lv' := [(0, _), (1, _), (2, _), (3, _), (4, _), (5, _)]) hJ d_Mo_addTask_11 (by decide) rfl ?_
  refine z_aload_n hJ d_Mo_addTask_13 0 rfl ?_
  refine z_get hJ d_Mo_addTask_14 hc_Mo f_Mo_7 0 rfl rfl (by decide) ?_
  refine z_iload hJ d_Mo_addTask_17 5 rfl ?_
  refine z_iconst (v := 0) hJ d_Mo_addTask_19 (by decide) ?_
  refine z_iadd hJ d_Mo_addTask_20 ?_
  refine z_c (y := nI (38 + 4 * n + 0)) (by rw [show (0 : Int32) = nI 0 from rfl, nI_add]) ?_
  refine z_iload_n hJ d_Mo_addTask_21 1 rfl ?_
  refine z_iast (w' := mW g a (upd M.1 ((38 + 4 * n + 0)) so, M.2.1, M.2.2.1, M.2.2.2.1, M.2.2.2.2.1, M.2.2.2.2.2.1, M.2.2.2.2.2.2.1, M.2.2.2.2.2.2.2.1, M.2.2.2.2.2.2.2.2.1, M.2.2.2.2.2.2.2.2.2.1, M.2.2.2.2.2.2.2.2.2.2.1, M.2.2.2.2.2.2.2.2.2.2.2.1, M.2.2.2.2.2.2.2.2.2.2.2.2.1, M.2.2.2.2.2.2.2.2.2.2.2.2.2.1, M.2.2.2.2.2.2.2.2.2.2.2.2.2.2.1, M.2.2.2.2.2.2.2.2.2.2.2.2.2.2.2.1, M.2.2.2.2.2.2.2.2.2.2.2.2.2.2.2.2.1, M.2.2.2.2.2.2.2.2.2.2.2.2.2.2.2.2.2.1, M.2.2.2.2.2.2.2.2.2.2.2.2.2.2.2.2.2.2.1, M.2.2.2.2.2.2.2.2.2.2.2.2.2.2.2.2.2.2.2.1, M.2.2.2.2.2.2.2.2.2.2.2.2.2.2.2.2.2.2.2.2)) hJ d_Mo_addTask_22 1 ((38 + 4 * n + 0)) rfl rfl (by omega) (by decide) rfl ?_
  refine z_aload_n hJ d_Mo_addTask_23 0 rfl ?_
  refine z_get hJ d_Mo_addTask_24 hc_Mo f_Mo_7 0 rfl rfl (by decide) ?_
  refine z_iload hJ d_Mo_addTask_27 5 rfl ?_
  refine z_iconst (v := 1) hJ d_Mo_addTask_29 (by decide) ?_
  refine z_iadd hJ d_Mo_addTask_30 ?_
  refine z_c (y := nI (38 + 4 * n + 1)) (by rw [show (1 : Int32) = nI 1 from rfl, nI_add]) ?_
  refine z_iload_n hJ d_Mo_addTask_31 2 rfl ?_
  refine z_iast (w' := mW g a (upd (upd M.1 ((38 + 4 * n + 0)) so) ((38 + 4 * n + 1)) m, M.2.1, M.2.2.1, M.2.2.2.1, M.2.2.2.2.1, M.2.2.2.2.2.1, M.2.2.2.2.2.2.1, M.2.2.2.2.2.2.2.1, M.2.2.2.2.2.2.2.2.1, M.2.2.2.2.2.2.2.2.2.1, M.2.2.2.2.2.2.2.2.2.2.1, M.2.2.2.2.2.2.2.2.2.2.2.1, M.2.2.2.2.2.2.2.2.2.2.2.2.1, M.2.2.2.2.2.2.2.2.2.2.2.2.2.1, M.2.2.2.2.2.2.2.2.2.2.2.2.2.2.1, M.2.2.2.2.2.2.2.2.2.2.2.2.2.2.2.1, M.2.2.2.2.2.2.2.2.2.2.2.2.2.2.2.2.1, M.2.2.2.2.2.2.2.2.2.2.2.2.2.2.2.2.2.1, M.2.2.2.2.2.2.2.2.2.2.2.2.2.2.2.2.2.2.1, M.2.2.2.2.2.2.2.2.2.2.2.2.2.2.2.2.2.2.2.1, M.2.2.2.2.2.2.2.2.2.2.2.2.2.2.2.2.2.2.2.2)) hJ d_Mo_addTask_32 1 ((38 + 4 * n + 1)) rfl rfl (by omega) (by decide) rfl ?_
  refine z_aload_n hJ d_Mo_addTask_33 0 rfl ?_
  refine z_get hJ d_Mo_addTask_34 hc_Mo f_Mo_7 0 rfl rfl (by decide) ?_
  refine z_iload hJ d_Mo_addTask_37 5 rfl ?_
  refine z_iconst (v := 2) hJ d_Mo_addTask_39 (by decide) ?_
  refine z_iadd hJ d_Mo_addTask_40 ?_
  refine z_c (y := nI (38 + 4 * n + 2)) (by rw [show (2 : Int32) = nI 2 from rfl, nI_add]) ?_
  refine z_iload_n hJ d_Mo_addTask_41 3 rfl ?_
  refine z_iast (w' := mW g a (upd (upd (upd M.1 ((38 + 4 * n + 0)) so) ((38 + 4 * n + 1)) m) ((38 + 4 * n + 2)) ne, M.2.1, M.2.2.1, M.2.2.2.1, M.2.2.2.2.1, M.2.2.2.2.2.1, M.2.2.2.2.2.2.1, M.2.2.2.2.2.2.2.1, M.2.2.2.2.2.2.2.2.1, M.2.2.2.2.2.2.2.2.2.1, M.2.2.2.2.2.2.2.2.2.2.1, M.2.2.2.2.2.2.2.2.2.2.2.1, M.2.2.2.2.2.2.2.2.2.2.2.2.1, M.2.2.2.2.2.2.2.2.2.2.2.2.2.1, M.2.2.2.2.2.2.2.2.2.2.2.2.2.2.1, M.2.2.2.2.2.2.2.2.2.2.2.2.2.2.2.1, M.2.2.2.2.2.2.2.2.2.2.2.2.2.2.2.2.1, M.2.2.2.2.2.2.2.2.2.2.2.2.2.2.2.2.2.1, M.2.2.2.2.2.2.2.2.2.2.2.2.2.2.2.2.2.2.1, M.2.2.2.2.2.2.2.2.2.2.2.2.2.2.2.2.2.2.2.1, M.2.2.2.2.2.2.2.2.2.2.2.2.2.2.2.2.2.2.2.2)) hJ d_Mo_addTask_42 1 ((38 + 4 * n + 2)) rfl rfl (by omega) (by decide) rfl ?_
  refine z_aload_n hJ d_Mo_addTask_43 0 rfl ?_
  refine z_get hJ d_Mo_addTask_44 hc_Mo f_Mo_7 0 rfl rfl (by decide) ?_
  refine z_iload hJ d_Mo_addTask_47 5 rfl ?_
  refine z_iconst (v := 3) hJ d_Mo_addTask_49 (by decide) ?_
  refine z_iadd hJ d_Mo_addTask_50 ?_
  refine z_c (y := nI (38 + 4 * n + 3)) (by rw [show (3 : Int32) = nI 3 from rfl, nI_add]) ?_
  refine z_iload hJ d_Mo_addTask_51 4 rfl ?_
  refine z_iast (w' := mW g a (upd (upd (upd (upd M.1 ((38 + 4 * n + 0)) so) ((38 + 4 * n + 1)) m) ((38 + 4 * n + 2)) ne) ((38 + 4 * n + 3)) pa, M.2.1, M.2.2.1, M.2.2.2.1, M.2.2.2.2.1, M.2.2.2.2.2.1, M.2.2.2.2.2.2.1, M.2.2.2.2.2.2.2.1, M.2.2.2.2.2.2.2.2.1, M.2.2.2.2.2.2.2.2.2.1, M.2.2.2.2.2.2.2.2.2.2.1, M.2.2.2.2.2.2.2.2.2.2.2.1, M.2.2.2.2.2.2.2.2.2.2.2.2.1, M.2.2.2.2.2.2.2.2.2.2.2.2.2.1, M.2.2.2.2.2.2.2.2.2.2.2.2.2.2.1, M.2.2.2.2.2.2.2.2.2.2.2.2.2.2.2.1, M.2.2.2.2.2.2.2.2.2.2.2.2.2.2.2.2.1, M.2.2.2.2.2.2.2.2.2.2.2.2.2.2.2.2.2.1, M.2.2.2.2.2.2.2.2.2.2.2.2.2.2.2.2.2.2.1, M.2.2.2.2.2.2.2.2.2.2.2.2.2.2.2.2.2.2.2.1, M.2.2.2.2.2.2.2.2.2.2.2.2.2.2.2.2.2.2.2.2)) hJ d_Mo_addTask_53 1 ((38 + 4 * n + 3)) rfl rfl (by omega) (by decide) rfl ?_
  refine z_aload_n hJ d_Mo_addTask_54 0 rfl ?_
  refine z_get hJ d_Mo_addTask_55 hc_Mo f_Mo_7 0 rfl rfl (by decide) ?_
  refine z_iconst (v := 2) hJ d_Mo_addTask_58 (by decide) ?_
  refine z_dup2 hJ d_Mo_addTask_59 rfl rfl ?_
  refine z_iald hJ d_Mo_addTask_60 1 (2) rfl rfl (by decide) (by decide) ?_
  refine z_c (y := nI n) (by simp only [upd_ne (show ¬ 2 = 38 + 4 * n + 0 by omega), upd_ne (show ¬ 2 = 38 + 4 * n + 1 by omega), upd_ne (show ¬ 2 = 38 + 4 * n + 2 by omega), upd_ne (show ¬ 2 = 38 + 4 * n + 3 by omega)]; exact hn) ?_
  refine z_iconst (v := 1) hJ d_Mo_addTask_61 (by decide) ?_
  refine z_iadd hJ d_Mo_addTask_62 ?_
  refine z_c (y := nI (n + 1)) (nI_1 _) ?_
  refine z_iast (w' := mW g a (upd (upd (upd (upd (upd M.1 ((38 + 4 * n + 0)) so) ((38 + 4 * n + 1)) m) ((38 + 4 * n + 2)) ne) ((38 + 4 * n + 3)) pa) (2) (nI (n + 1)), M.2.1, M.2.2.1, M.2.2.2.1, M.2.2.2.2.1, M.2.2.2.2.2.1, M.2.2.2.2.2.2.1, M.2.2.2.2.2.2.2.1, M.2.2.2.2.2.2.2.2.1, M.2.2.2.2.2.2.2.2.2.1, M.2.2.2.2.2.2.2.2.2.2.1, M.2.2.2.2.2.2.2.2.2.2.2.1, M.2.2.2.2.2.2.2.2.2.2.2.2.1, M.2.2.2.2.2.2.2.2.2.2.2.2.2.1, M.2.2.2.2.2.2.2.2.2.2.2.2.2.2.1, M.2.2.2.2.2.2.2.2.2.2.2.2.2.2.2.1, M.2.2.2.2.2.2.2.2.2.2.2.2.2.2.2.2.1, M.2.2.2.2.2.2.2.2.2.2.2.2.2.2.2.2.2.1, M.2.2.2.2.2.2.2.2.2.2.2.2.2.2.2.2.2.2.1, M.2.2.2.2.2.2.2.2.2.2.2.2.2.2.2.2.2.2.2.1, M.2.2.2.2.2.2.2.2.2.2.2.2.2.2.2.2.2.2.2.2)) hJ d_Mo_addTask_63 1 (2) rfl rfl (by decide) (by decide) rfl ?_
  exact z_rv hR d_Mo_addTask_64 rfl
