theorem q_isN_nat {T : TS} {n : Nat} (hn : n ≤ 7) (h : q_isN T 0 (nI n - 1) = true) : T.2.2.2.2.2.toNatClampNeg < n ∧ T.2.2.2.2.2 = nI T.2.2.2.2.2.toNatClampNeg := by
  unfold q_isN q_in at h
  simp only [Bool.and_eq_true, Bool.not_eq_true', decide_eq_true_eq, decide_eq_false_iff_not] at h
  obtain ⟨j, hj, e⟩ := nI_of h.2.1
  have h2 := h.2.2
  rw [e] at h2 ⊢
  rw [nI_clamp hj]
  refine ⟨?_, rfl⟩
  rcases Nat.eq_zero_or_pos n with rfl | hp
  · exfalso
    apply h2
    rw [show nI 0 - 1 = (-1 : Int32) by decide]
    rw [Int32.lt_iff_toInt_lt, nI_toInt hj]
    have : (-1 : Int32).toInt = -1 := by decide
    omega
  · rw [zsub1 hp] at h2
    rcases Nat.lt_or_ge j n with q | q
    · exact q
    · exact absurd (nI_lt (a := n - 1) (b := j) (by omega) hj) h2
theorem q_add_pi {P : RS} (h : zPi P) (hn : P.2.1 < 7) (k m : Int32) : zPi (q_add P k m) := ⟨hn, h.2.1, h.2.2⟩
theorem q_addT_pi {P : RS} (h : zPi P) (hn : P.2.2.1 < 8) (a b c d : Int32) : zPi (q_addT P a b c d) := ⟨h.1, hn, h.2.2⟩
set_option maxRecDepth 100000 in
theorem m_Tp_takeSleep {g : Nat → Nat → Nat} {b c : Nat → Nat} {T : TS} {P : RS} {e : Bool} (hT : zTi T) (hP : zPi P) : zM g y_Tp_takeSleep b_Tp_takeSleep 3 (some .boolean) 3 [.ref (b 0), .ref (c 0), .int (zB e)] (tW g b T ++ rW g c P) [.int (zB (q_tkS T P e).1)] (tW g b (q_tkS T P e).2.1 ++ rW g c (q_tkS T P e).2.2) := by
  refine zMz (lv := [(0, .ref (b 0)), (1, .ref (c 0)), (2, .int (zB e))]) (by decide) (Nat.le_of_ble_eq_true rfl) rfl (fun J hJ hR => ?_)
  refine z_aload_n hJ d_Tp_takeSleep_0 0 rfl ?_
  refine z_callVv hJ (m_Tp_advance hT.1 hT.2.1) k_Tp_31 zL_tT d_Tp_takeSleep_1 hc_Tp 0 rfl rfl rfl (Nat.le_of_ble_eq_true rfl) ⟨by decide, by decide⟩ ?_
  refine z_aload_n hJ d_Tp_takeSleep_4 0 rfl ?_
  refine z_iconst (v := 0) hJ d_Tp_takeSleep_5 (by decide) ?_
  refine z_aload_n hJ d_Tp_takeSleep_6 1 rfl ?_
  refine z_get hJ d_Tp_takeSleep_7 hc_Rd f_Tp_62 2 rfl rfl (by decide) ?_
  refine z_iconst (v := 1) hJ d_Tp_takeSleep_10 (by decide) ?_
  refine z_isub hJ d_Tp_takeSleep_11 ?_
  refine z_callVi hJ (m_Tp_isNumber (zTi.a hT).2.2.2) k_Tp_72 zL_tT d_Tp_takeSleep_12 hc_Tp 0 rfl rfl rfl (Nat.le_of_ble_eq_true rfl) ⟨by decide, by decide⟩ ?_
  refine zb_ne hJ d_Tp_takeSleep_15 (fun c_15 => ?_) (fun c_15 => ?_)
  · skip
    have hq := q_isN_nat hP.1 c_15
    have hp7 := hP.1
    refine z_aload_n hJ d_Tp_takeSleep_20 1 rfl ?_
    refine z_aload_n hJ d_Tp_takeSleep_21 0 rfl ?_
    refine z_callVi hJ (m_Tp_takeNumber (zTi.a hT).1 (zTi.a hT).2.1) k_Tp_76 zL_tT d_Tp_takeSleep_22 hc_Tp 0 rfl rfl rfl (Nat.le_of_ble_eq_true rfl) ⟨by decide, by decide⟩ ?_
    refine z_c (y := nI (q_adv T).2.2.2.2.2.toNatClampNeg) hq.2 ?_
    refine z_iload_n hJ d_Tp_takeSleep_25 2 rfl ?_
    refine z_callVi hJ (m_Rd_putAsleep (Nat.lt_trans hP.2.2 (by decide)) (by omega)) k_Tp_95 zL_tR d_Tp_takeSleep_26 hc_Rd 2 rfl rfl rfl (Nat.le_of_ble_eq_true rfl) ⟨by decide, by decide⟩ ?_
    refine z_pop hJ d_Tp_takeSleep_29 rfl ?_
    refine z_iconst (v := 1) hJ d_Tp_takeSleep_30 (by decide) ?_
    exact z_ri hR d_Tp_takeSleep_31 (by simp [q_tkS, c_15]; try rfl) (by simp [q_tkS, c_15])
  · skip
    refine z_iconst (v := 0) hJ d_Tp_takeSleep_18 (by decide) ?_
    exact z_ri hR d_Tp_takeSleep_19 (by simp [q_tkS, c_15]; try rfl) (by simp [q_tkS, c_15])
set_option maxRecDepth 100000 in
theorem m_Tp_takeTask {g : Nat → Nat → Nat} {b c : Nat → Nat} {T : TS} {P : RS}  (hT : zTi T) (hP : zPi P) : zM g y_Tp_takeTask b_Tp_takeTask 5 (some .boolean) 6 [.ref (b 0), .ref (c 0)] (tW g b T ++ rW g c P) [.int (zB (q_tkT T P).1)] (tW g b (q_tkT T P).2.1 ++ rW g c (q_tkT T P).2.2) := by
  have hn8 := hP.2.1
  refine zMz (lv := [(0, .ref (b 0)), (1, .ref (c 0))]) (by decide) (Nat.le_of_ble_eq_true rfl) rfl (fun J hJ hR => ?_)
  refine z_aload_n hJ d_Tp_takeTask_0 1 rfl ?_
  refine z_get hJ d_Tp_takeTask_1 hc_Rd f_Tp_99 2 rfl rfl (by decide) ?_
  refine z_bipush (v := 8) hJ d_Tp_takeTask_4 (by decide) ?_
  refine z_icmp_lt hJ d_Tp_takeTask_6 (fun c_6 => ?_) (fun c_6 => ?_)
  · skip
    have h_6 : P.2.2.1 < 8 := by
      have e := nI_ltI (a := P.2.2.1) (b := 8) (by omega) (by omega)
      exact e.mp c_6
    have ht8 := h_6
    refine z_aload_n hJ d_Tp_takeTask_11 0 rfl ?_
    refine z_callVv hJ (m_Tp_advance hT.1 hT.2.1) k_Tp_31 zL_tT d_Tp_takeTask_12 hc_Tp 0 rfl rfl rfl (Nat.le_of_ble_eq_true rfl) ⟨by decide, by decide⟩ ?_
    refine z_aload_n hJ d_Tp_takeTask_15 0 rfl ?_
    refine z_callVi hJ (m_Tp_sortInHand (zTi.a hT).1 (zTi.a hT).2.1 (zTi.a hT).2.2.1 (zTi.a hT).2.2.2) k_Tp_102 zL_tT d_Tp_takeTask_16 hc_Tp 0 rfl rfl rfl (Nat.le_of_ble_eq_true rfl) ⟨by decide, by decide⟩ ?_
    refine z_istore_n (lv' := [(0, _), (1, _), (2, _)]) hJ d_Tp_takeTask_19 (by decide) rfl ?_
    refine z_iload_n hJ d_Tp_takeTask_20 2 rfl ?_
    refine z_if_ge hJ d_Tp_takeTask_21 (fun c_21 => ?_) (fun c_21 => ?_)
    · skip
      refine z_aload_n hJ d_Tp_takeTask_26 0 rfl ?_
      refine z_callVv hJ (m_Tp_advance (zTi.a hT).1 (zTi.a hT).2.1) k_Tp_31 zL_tT d_Tp_takeTask_27 hc_Tp 0 rfl rfl rfl (Nat.le_of_ble_eq_true rfl) ⟨by decide, by decide⟩ ?_
      refine z_aload_n hJ d_Tp_takeTask_30 0 rfl ?_
      refine z_ldcS (i := 6) hJ d_Tp_takeTask_31 rfl ?_
      refine z_callVi hJ (m_Tp_takeWord (zTi.a (zTi.a hT)).1 (zTi.a (zTi.a hT)).2.1 (zTi.a (zTi.a hT)).2.2.1 (zTi.a (zTi.a hT)).2.2.2 (by decide)) k_Tp_69 zL_tT d_Tp_takeTask_33 hc_Tp 0 rfl rfl rfl (Nat.le_of_ble_eq_true rfl) ⟨by decide, by decide⟩ ?_
      refine zb_eq hJ d_Tp_takeTask_36 (fun c_36 => ?_) (fun c_36 => ?_)
      · skip
        rw [if_neg (by rw [c_36]; decide)]
        refine z_iconst (v := 0) hJ d_Tp_takeTask_49 (by decide) ?_
        exact z_ri hR d_Tp_takeTask_50 (by simp [q_tkT, q_t2, q_t3, q_t4, h_6, c_6, c_21, c_36]; try rfl) (by simp [q_tkT, q_t2, q_t3, q_t4, h_6, c_6, c_21, c_36])
      · skip
        rw [if_pos c_36]
        refine z_aload_n hJ d_Tp_takeTask_39 0 rfl ?_
        refine z_iconst (v := 0) hJ d_Tp_takeTask_40 (by decide) ?_
        refine z_bipush (v := 30) hJ d_Tp_takeTask_41 (by decide) ?_
        refine z_callVi hJ (m_Tp_isNumber (zTi.a (zTi.a (zTi.a hT))).2.2.2) k_Tp_72 zL_tT d_Tp_takeTask_43 hc_Tp 0 rfl rfl rfl (Nat.le_of_ble_eq_true rfl) ⟨by decide, by decide⟩ ?_
        refine zb_ne hJ d_Tp_takeTask_46 (fun c_46 => ?_) (fun c_46 => ?_)
        · skip
          refine z_aload_n hJ d_Tp_takeTask_51 0 rfl ?_
          refine z_callVi hJ (m_Tp_takeNumber (zTi.a (zTi.a (zTi.a hT))).1 (zTi.a (zTi.a (zTi.a hT))).2.1) k_Tp_76 zL_tT d_Tp_takeTask_52 hc_Tp 0 rfl rfl rfl (Nat.le_of_ble_eq_true rfl) ⟨by decide, by decide⟩ ?_
          refine z_istore_n (lv' := [(0, _), (1, _), (2, _), (3, _)]) hJ d_Tp_takeTask_55 (by decide) rfl ?_
          refine z_aload_n hJ d_Tp_takeTask_56 0 rfl ?_
          refine z_ldcS (i := 7) hJ d_Tp_takeTask_57 rfl ?_
          refine z_callVi hJ (m_Tp_takeWord (zTi.a (zTi.a (zTi.a (zTi.a hT)))).1 (zTi.a (zTi.a (zTi.a (zTi.a hT)))).2.1 (zTi.a (zTi.a (zTi.a (zTi.a hT)))).2.2.1 (zTi.a (zTi.a (zTi.a (zTi.a hT)))).2.2.2 (by decide)) k_Tp_69 zL_tT d_Tp_takeTask_59 hc_Tp 0 rfl rfl rfl (Nat.le_of_ble_eq_true rfl) ⟨by decide, by decide⟩ ?_
          refine zb_eq hJ d_Tp_takeTask_62 (fun c_62 => ?_) (fun c_62 => ?_)
          · skip
            rw [if_neg (by rw [c_62]; decide)]
            refine z_iconst (v := 0) hJ d_Tp_takeTask_75 (by decide) ?_
            exact z_ri hR d_Tp_takeTask_76 (by simp [q_tkT, q_t2, q_t3, q_t4, h_6, c_6, c_21, c_36, c_46, c_62]; try rfl) (by simp [q_tkT, q_t2, q_t3, q_t4, h_6, c_6, c_21, c_36, c_46, c_62])
          · skip
            rw [if_pos c_62]
            refine z_aload_n hJ d_Tp_takeTask_65 0 rfl ?_
            refine z_iconst (v := 1) hJ d_Tp_takeTask_66 (by decide) ?_
            refine z_bipush (v := 99) hJ d_Tp_takeTask_67 (by decide) ?_
            refine z_callVi hJ (m_Tp_isNumber (zTi.a (zTi.a (zTi.a (zTi.a (zTi.a hT))))).2.2.2) k_Tp_72 zL_tT d_Tp_takeTask_69 hc_Tp 0 rfl rfl rfl (Nat.le_of_ble_eq_true rfl) ⟨by decide, by decide⟩ ?_
            refine zb_ne hJ d_Tp_takeTask_72 (fun c_72 => ?_) (fun c_72 => ?_)
            · skip
              refine z_aload_n hJ d_Tp_takeTask_77 0 rfl ?_
              refine z_callVi hJ (m_Tp_takeNumber (zTi.a (zTi.a (zTi.a (zTi.a (zTi.a hT))))).1 (zTi.a (zTi.a (zTi.a (zTi.a (zTi.a hT))))).2.1) k_Tp_76 zL_tT d_Tp_takeTask_78 hc_Tp 0 rfl rfl rfl (Nat.le_of_ble_eq_true rfl) ⟨by decide, by decide⟩ ?_
              refine z_istore (lv' := [(0, _), (1, _), (2, _), (3, _), (4, _)]) hJ d_Tp_takeTask_81 (by decide) rfl ?_
              refine z_aload_n hJ d_Tp_takeTask_83 0 rfl ?_
              refine z_ldcS (i := 8) hJ d_Tp_takeTask_84 rfl ?_
              refine z_callVi hJ (m_Tp_takeWord (zTi.a (zTi.a (zTi.a (zTi.a (zTi.a (zTi.a hT)))))).1 (zTi.a (zTi.a (zTi.a (zTi.a (zTi.a (zTi.a hT)))))).2.1 (zTi.a (zTi.a (zTi.a (zTi.a (zTi.a (zTi.a hT)))))).2.2.1 (zTi.a (zTi.a (zTi.a (zTi.a (zTi.a (zTi.a hT)))))).2.2.2 (by decide)) k_Tp_69 zL_tT d_Tp_takeTask_86 hc_Tp 0 rfl rfl rfl (Nat.le_of_ble_eq_true rfl) ⟨by decide, by decide⟩ ?_
              refine zb_eq hJ d_Tp_takeTask_89 (fun c_89 => ?_) (fun c_89 => ?_)
              · skip
                rw [if_neg (by rw [c_89]; decide)]
                refine z_iconst (v := 0) hJ d_Tp_takeTask_102 (by decide) ?_
                exact z_ri hR d_Tp_takeTask_103 (by simp [q_tkT, q_t2, q_t3, q_t4, h_6, c_6, c_21, c_36, c_46, c_62, c_72, c_89]; try rfl) (by simp [q_tkT, q_t2, q_t3, q_t4, h_6, c_6, c_21, c_36, c_46, c_62, c_72, c_89])
              · skip
                rw [if_pos c_89]
                refine z_aload_n hJ d_Tp_takeTask_92 0 rfl ?_
                refine z_iconst (v := 0) hJ d_Tp_takeTask_93 (by decide) ?_
                refine z_bipush (v := 99) hJ d_Tp_takeTask_94 (by decide) ?_
                refine z_callVi hJ (m_Tp_isNumber (zTi.a (zTi.a (zTi.a (zTi.a (zTi.a (zTi.a (zTi.a hT))))))).2.2.2) k_Tp_72 zL_tT d_Tp_takeTask_96 hc_Tp 0 rfl rfl rfl (Nat.le_of_ble_eq_true rfl) ⟨by decide, by decide⟩ ?_
                refine zb_ne hJ d_Tp_takeTask_99 (fun c_99 => ?_) (fun c_99 => ?_)
                · skip
                  refine z_aload_n hJ d_Tp_takeTask_104 1 rfl ?_
                  refine z_iload_n hJ d_Tp_takeTask_105 2 rfl ?_
                  refine z_iload_n hJ d_Tp_takeTask_106 3 rfl ?_
                  refine z_iload hJ d_Tp_takeTask_107 4 rfl ?_
                  refine z_aload_n hJ d_Tp_takeTask_109 0 rfl ?_
                  refine z_callVi hJ (m_Tp_takeNumber (zTi.a (zTi.a (zTi.a (zTi.a (zTi.a (zTi.a (zTi.a hT))))))).1 (zTi.a (zTi.a (zTi.a (zTi.a (zTi.a (zTi.a (zTi.a hT))))))).2.1) k_Tp_76 zL_tT d_Tp_takeTask_110 hc_Tp 0 rfl rfl rfl (Nat.le_of_ble_eq_true rfl) ⟨by decide, by decide⟩ ?_
                  refine z_callVi hJ (m_Rd_addTask (by omega)) k_Tp_109 zL_tR d_Tp_takeTask_113 hc_Rd 2 rfl rfl rfl (Nat.le_of_ble_eq_true rfl) ⟨by decide, by decide⟩ ?_
                  refine z_pop hJ d_Tp_takeTask_116 rfl ?_
                  refine z_iconst (v := 1) hJ d_Tp_takeTask_117 (by decide) ?_
                  exact z_ri hR d_Tp_takeTask_118 (by simp [q_tkT, q_t2, q_t3, q_t4, h_6, c_6, c_21, c_36, c_46, c_62, c_72, c_89, c_99]; try rfl) (by simp [q_tkT, q_t2, q_t3, q_t4, h_6, c_6, c_21, c_36, c_46, c_62, c_72, c_89, c_99])
                · skip
                  refine z_iconst (v := 0) hJ d_Tp_takeTask_102 (by decide) ?_
                  exact z_ri hR d_Tp_takeTask_103 (by simp [q_tkT, q_t2, q_t3, q_t4, h_6, c_6, c_21, c_36, c_46, c_62, c_72, c_89, c_99]; try rfl) (by simp [q_tkT, q_t2, q_t3, q_t4, h_6, c_6, c_21, c_36, c_46, c_62, c_72, c_89, c_99])
            · skip
              refine z_iconst (v := 0) hJ d_Tp_takeTask_75 (by decide) ?_
              exact z_ri hR d_Tp_takeTask_76 (by simp [q_tkT, q_t2, q_t3, q_t4, h_6, c_6, c_21, c_36, c_46, c_62, c_72]; try rfl) (by simp [q_tkT, q_t2, q_t3, q_t4, h_6, c_6, c_21, c_36, c_46, c_62, c_72])
        · skip
          refine z_iconst (v := 0) hJ d_Tp_takeTask_49 (by decide) ?_
          exact z_ri hR d_Tp_takeTask_50 (by simp [q_tkT, q_t2, q_t3, q_t4, h_6, c_6, c_21, c_36, c_46]; try rfl) (by simp [q_tkT, q_t2, q_t3, q_t4, h_6, c_6, c_21, c_36, c_46])
    · skip
      refine z_iconst (v := 0) hJ d_Tp_takeTask_24 (by decide) ?_
      exact z_ri hR d_Tp_takeTask_25 (by simp [q_tkT, q_t2, q_t3, q_t4, h_6, c_6, c_21]; try rfl) (by simp [q_tkT, q_t2, q_t3, q_t4, h_6, c_6, c_21])
  · skip
    have h_6 : ¬ (P.2.2.1 < 8) := by
      have e := nI_ltI (a := P.2.2.1) (b := 8) (by omega) (by omega)
      exact fun q => c_6 (e.mpr q)
    refine z_iconst (v := 0) hJ d_Tp_takeTask_9 (by decide) ?_
    exact z_ri hR d_Tp_takeTask_10 (by simp [q_tkT, q_t2, q_t3, q_t4, h_6, c_6]; try rfl) (by simp [q_tkT, q_t2, q_t3, q_t4, h_6, c_6])
set_option maxRecDepth 100000 in
theorem m_Tp_takeFellow {g : Nat → Nat → Nat} {b c : Nat → Nat} {T : TS} {P : RS}  (hT : zTi T) (hP : zPi P) : zM g y_Tp_takeFellow b_Tp_takeFellow 4 (some .boolean) 6 [.ref (b 0), .ref (c 0)] (tW g b T ++ rW g c P) [.int (zB (q_tkF T P).1)] (tW g b (q_tkF T P).2.1 ++ rW g c (q_tkF T P).2.2) := by
  have hn7 := hP.1
  refine zMz (lv := [(0, .ref (b 0)), (1, .ref (c 0))]) (by decide) (Nat.le_of_ble_eq_true rfl) rfl (fun J hJ hR => ?_)
  have A118 : ∀ (T' : TS) (P' : RS), zTi T' → zPi P' → P'.2.1 = P.2.1 + 1 → q_f5 T' P' P.2.1 = q_tkF T P → J (tW g b (T') ++ rW g c (P')) 118 [(0, .ref (b 0)), (1, .ref (c 0)), (2, .int (q_kind T)), (3, .int (nI P.2.1))] [] := by
    intro T' P' hT' hP' hn' hq
    have h7' := hP'.1
    refine z_aload_n hJ d_Tp_takeFellow_118 0 rfl ?_
    refine z_ldcS (i := 19) hJ d_Tp_takeFellow_119 rfl ?_
    refine z_callVi hJ (m_Tp_takeWord hT'.1 hT'.2.1 hT'.2.2.1 hT'.2.2.2 (by decide)) k_Tp_69 zL_tT d_Tp_takeFellow_121 hc_Tp 0 rfl rfl rfl (Nat.le_of_ble_eq_true rfl) ⟨by decide, by decide⟩ ?_
    refine zb_eq hJ d_Tp_takeFellow_124 (fun c_124 => ?_) (fun c_124 => ?_)
    · skip
      rw [if_neg (by rw [c_124]; decide)]
      refine z_iconst (v := 1) hJ d_Tp_takeFellow_134 (by decide) ?_
      exact z_ri hR d_Tp_takeFellow_135 (by rw [← hq]; simp [q_f5, c_124]; try rfl) (by rw [← hq]; simp [q_f5, c_124])
    · skip
      rw [if_pos c_124]
      refine z_aload_n hJ d_Tp_takeFellow_127 1 rfl ?_
      refine z_iload_n hJ d_Tp_takeFellow_128 3 rfl ?_
      refine z_iconst (v := 1) hJ d_Tp_takeFellow_129 (by decide) ?_
      refine z_callVi hJ (m_Rd_putAsleep (i := P.2.1) (c := true) (Nat.lt_trans hP'.2.2 (by decide)) (by omega)) k_Tp_95 zL_tR d_Tp_takeFellow_130 hc_Rd 2 rfl rfl rfl (Nat.le_of_ble_eq_true rfl) ⟨by decide, by decide⟩ ?_
      refine z_pop hJ d_Tp_takeFellow_133 rfl ?_
      refine z_iconst (v := 1) hJ d_Tp_takeFellow_134 (by decide) ?_
      exact z_ri hR d_Tp_takeFellow_135 (by rw [← hq]; simp [q_f5, c_124]; try rfl) (by rw [← hq]; simp [q_f5, c_124])
  have A87 : ∀ (T' : TS) (P' : RS), zTi T' → zPi P' → P'.2.1 = P.2.1 + 1 → q_f4 T' P' P.2.1 = q_tkF T P → J (tW g b (T') ++ rW g c (P')) 87 [(0, .ref (b 0)), (1, .ref (c 0)), (2, .int (q_kind T)), (3, .int (nI P.2.1))] [] := by
    intro T' P' hT' hP' hn' hq
    have h7' := hP'.1
    refine z_aload_n hJ d_Tp_takeFellow_87 0 rfl ?_
    refine z_ldcS (i := 18) hJ d_Tp_takeFellow_88 rfl ?_
    refine z_callVi hJ (m_Tp_takeWord hT'.1 hT'.2.1 hT'.2.2.1 hT'.2.2.2 (by decide)) k_Tp_69 zL_tT d_Tp_takeFellow_90 hc_Tp 0 rfl rfl rfl (Nat.le_of_ble_eq_true rfl) ⟨by decide, by decide⟩ ?_
    refine zb_eq hJ d_Tp_takeFellow_93 (fun c_93 => ?_) (fun c_93 => ?_)
    · skip
      rw [if_neg (by rw [c_93]; decide)]
      exact A118 _ _ hT' hP' hn' (by rw [← hq]; simp [q_f4, q_setS, c_93])
    · skip
      rw [if_pos c_93]
      refine z_aload_n hJ d_Tp_takeFellow_96 0 rfl ?_
      refine z_iconst (v := 1) hJ d_Tp_takeFellow_97 (by decide) ?_
      refine z_bipush (v := 9) hJ d_Tp_takeFellow_98 (by decide) ?_
      refine z_callVi hJ (m_Tp_isNumber (zTi.a hT').2.2.2) k_Tp_72 zL_tT d_Tp_takeFellow_100 hc_Tp 0 rfl rfl rfl (Nat.le_of_ble_eq_true rfl) ⟨by decide, by decide⟩ ?_
      refine zb_ne hJ d_Tp_takeFellow_103 (fun c_103 => ?_) (fun c_103 => ?_)
      · skip
        refine z_aload_n hJ d_Tp_takeFellow_108 1 rfl ?_
        refine z_get hJ d_Tp_takeFellow_109 hc_Rd f_Tp_90 2 rfl rfl (by decide) ?_
        refine z_iload_n hJ d_Tp_takeFellow_112 3 rfl ?_
        refine z_aload_n hJ d_Tp_takeFellow_113 0 rfl ?_
        refine z_callVi hJ (m_Tp_takeNumber (zTi.a hT').1 (zTi.a hT').2.1) k_Tp_76 zL_tT d_Tp_takeFellow_114 hc_Tp 0 rfl rfl rfl (Nat.le_of_ble_eq_true rfl) ⟨by decide, by decide⟩ ?_
        refine z_n (fun x_1 e_1 => ?_)
        refine z_iast (w' := tW g b (q_adv (q_adv (T'))) ++ rW g c ((P').1, (P').2.1, (P').2.2.1, (P').2.2.2.1, (P').2.2.2.2.1, (P').2.2.2.2.2.1, (P').2.2.2.2.2.2.1, upd (P').2.2.2.2.2.2.2.1 (P.2.1) x_1, (P').2.2.2.2.2.2.2.2.1, (P').2.2.2.2.2.2.2.2.2.1, (P').2.2.2.2.2.2.2.2.2.2.1, (P').2.2.2.2.2.2.2.2.2.2.2)) hJ d_Tp_takeFellow_117 6 (P.2.1) rfl rfl (by omega) (by decide) rfl ?_
        subst e_1
        exact A118 _ _ hT'.a.a ⟨hP'.1, hP'.2.1, hP'.2.2⟩ hn' (by rw [← hq]; simp [q_f4, q_setS, c_93, c_103])
      · skip
        refine z_iconst (v := 0) hJ d_Tp_takeFellow_106 (by decide) ?_
        exact z_ri hR d_Tp_takeFellow_107 (by rw [← hq]; simp [q_f4, c_93, c_103]; try rfl) (by rw [← hq]; simp [q_f4, c_93, c_103])
  have A56 : ∀ (T' : TS) (P' : RS), zTi T' → zPi P' → P'.2.1 = P.2.1 + 1 → q_f3 T' P' P.2.1 = q_tkF T P → J (tW g b (T') ++ rW g c (P')) 56 [(0, .ref (b 0)), (1, .ref (c 0)), (2, .int (q_kind T)), (3, .int (nI P.2.1))] [] := by
    intro T' P' hT' hP' hn' hq
    have h7' := hP'.1
    refine z_aload_n hJ d_Tp_takeFellow_56 0 rfl ?_
    refine z_ldcS (i := 17) hJ d_Tp_takeFellow_57 rfl ?_
    refine z_callVi hJ (m_Tp_takeWord hT'.1 hT'.2.1 hT'.2.2.1 hT'.2.2.2 (by decide)) k_Tp_69 zL_tT d_Tp_takeFellow_59 hc_Tp 0 rfl rfl rfl (Nat.le_of_ble_eq_true rfl) ⟨by decide, by decide⟩ ?_
    refine zb_eq hJ d_Tp_takeFellow_62 (fun c_62 => ?_) (fun c_62 => ?_)
    · skip
      rw [if_neg (by rw [c_62]; decide)]
      exact A87 _ _ hT' hP' hn' (by rw [← hq]; simp [q_f3, q_setG, c_62])
    · skip
      rw [if_pos c_62]
      refine z_aload_n hJ d_Tp_takeFellow_65 0 rfl ?_
      refine z_iconst (v := 0) hJ d_Tp_takeFellow_66 (by decide) ?_
      refine z_bipush (v := 30) hJ d_Tp_takeFellow_67 (by decide) ?_
      refine z_callVi hJ (m_Tp_isNumber (zTi.a hT').2.2.2) k_Tp_72 zL_tT d_Tp_takeFellow_69 hc_Tp 0 rfl rfl rfl (Nat.le_of_ble_eq_true rfl) ⟨by decide, by decide⟩ ?_
      refine zb_ne hJ d_Tp_takeFellow_72 (fun c_72 => ?_) (fun c_72 => ?_)
      · skip
        refine z_aload_n hJ d_Tp_takeFellow_77 1 rfl ?_
        refine z_get hJ d_Tp_takeFellow_78 hc_Rd f_Tp_85 2 rfl rfl (by decide) ?_
        refine z_iload_n hJ d_Tp_takeFellow_81 3 rfl ?_
        refine z_aload_n hJ d_Tp_takeFellow_82 0 rfl ?_
        refine z_callVi hJ (m_Tp_takeNumber (zTi.a hT').1 (zTi.a hT').2.1) k_Tp_76 zL_tT d_Tp_takeFellow_83 hc_Tp 0 rfl rfl rfl (Nat.le_of_ble_eq_true rfl) ⟨by decide, by decide⟩ ?_
        refine z_n (fun x_2 e_2 => ?_)
        refine z_iast (w' := tW g b (q_adv (q_adv (T'))) ++ rW g c ((P').1, (P').2.1, (P').2.2.1, (P').2.2.2.1, (P').2.2.2.2.1, (P').2.2.2.2.2.1, upd (P').2.2.2.2.2.2.1 (P.2.1) x_2, (P').2.2.2.2.2.2.2.1, (P').2.2.2.2.2.2.2.2.1, (P').2.2.2.2.2.2.2.2.2.1, (P').2.2.2.2.2.2.2.2.2.2.1, (P').2.2.2.2.2.2.2.2.2.2.2)) hJ d_Tp_takeFellow_86 5 (P.2.1) rfl rfl (by omega) (by decide) rfl ?_
        subst e_2
        exact A87 _ _ hT'.a.a ⟨hP'.1, hP'.2.1, hP'.2.2⟩ hn' (by rw [← hq]; simp [q_f3, q_setG, c_62, c_72])
      · skip
        refine z_iconst (v := 0) hJ d_Tp_takeFellow_75 (by decide) ?_
        exact z_ri hR d_Tp_takeFellow_76 (by rw [← hq]; simp [q_f3, c_62, c_72]; try rfl) (by rw [← hq]; simp [q_f3, c_62, c_72])
  refine z_aload_n hJ d_Tp_takeFellow_0 0 rfl ?_
  refine z_callVi hJ (m_Tp_kindInHand hT.1 hT.2.1 hT.2.2.1 hT.2.2.2) k_Tp_58 zL_tT d_Tp_takeFellow_1 hc_Tp 0 rfl rfl rfl (Nat.le_of_ble_eq_true rfl) ⟨by decide, by decide⟩ ?_
  refine z_istore_n (lv' := [(0, _), (1, _), (2, _)]) hJ d_Tp_takeFellow_4 (by decide) rfl ?_
  refine z_iload_n hJ d_Tp_takeFellow_5 2 rfl ?_
  refine z_iconst (v := (-1)) hJ d_Tp_takeFellow_6 (by decide) ?_
  refine z_icmp_eq hJ d_Tp_takeFellow_7 (fun c_7 => ?_) (fun c_7 => ?_)
  · skip
    refine z_iconst (v := 0) hJ d_Tp_takeFellow_19 (by decide) ?_
    exact z_ri hR d_Tp_takeFellow_20 (by simp [q_tkF, c_7]; try rfl) (by simp [q_tkF, c_7])
  · skip
    refine z_aload_n hJ d_Tp_takeFellow_10 1 rfl ?_
    refine z_get hJ d_Tp_takeFellow_11 hc_Rd f_Tp_62 2 rfl rfl (by decide) ?_
    refine z_bipush (v := 7) hJ d_Tp_takeFellow_14 (by decide) ?_
    refine z_icmp_lt hJ d_Tp_takeFellow_16 (fun c_16 => ?_) (fun c_16 => ?_)
    · skip
      have h_16 : P.2.1 < 7 := by
        have e := nI_ltI (a := P.2.1) (b := 7) (by omega) (by omega)
        exact e.mp c_16
      refine z_aload_n hJ d_Tp_takeFellow_21 0 rfl ?_
      refine z_callVv hJ (m_Tp_advance hT.1 hT.2.1) k_Tp_31 zL_tT d_Tp_takeFellow_22 hc_Tp 0 rfl rfl rfl (Nat.le_of_ble_eq_true rfl) ⟨by decide, by decide⟩ ?_
      refine z_aload_n hJ d_Tp_takeFellow_25 0 rfl ?_
      refine z_ldcS (i := 6) hJ d_Tp_takeFellow_26 rfl ?_
      refine z_callVi hJ (m_Tp_takeWord (zTi.a hT).1 (zTi.a hT).2.1 (zTi.a hT).2.2.1 (zTi.a hT).2.2.2 (by decide)) k_Tp_69 zL_tT d_Tp_takeFellow_28 hc_Tp 0 rfl rfl rfl (Nat.le_of_ble_eq_true rfl) ⟨by decide, by decide⟩ ?_
      refine zb_eq hJ d_Tp_takeFellow_31 (fun c_31 => ?_) (fun c_31 => ?_)
      · skip
        rw [if_neg (by rw [c_31]; decide)]
        refine z_iconst (v := 0) hJ d_Tp_takeFellow_44 (by decide) ?_
        exact z_ri hR d_Tp_takeFellow_45 (by simp [q_tkF, q_f2, h_16, c_7, c_16, c_31]; try rfl) (by simp [q_tkF, q_f2, h_16, c_7, c_16, c_31])
      · skip
        rw [if_pos c_31]
        refine z_aload_n hJ d_Tp_takeFellow_34 0 rfl ?_
        refine z_iconst (v := 0) hJ d_Tp_takeFellow_35 (by decide) ?_
        refine z_bipush (v := 30) hJ d_Tp_takeFellow_36 (by decide) ?_
        refine z_callVi hJ (m_Tp_isNumber (zTi.a (zTi.a hT)).2.2.2) k_Tp_72 zL_tT d_Tp_takeFellow_38 hc_Tp 0 rfl rfl rfl (Nat.le_of_ble_eq_true rfl) ⟨by decide, by decide⟩ ?_
        refine zb_ne hJ d_Tp_takeFellow_41 (fun c_41 => ?_) (fun c_41 => ?_)
        · skip
          refine z_aload_n hJ d_Tp_takeFellow_46 1 rfl ?_
          refine z_iload_n hJ d_Tp_takeFellow_47 2 rfl ?_
          refine z_aload_n hJ d_Tp_takeFellow_48 0 rfl ?_
          refine z_callVi hJ (m_Tp_takeNumber (zTi.a (zTi.a hT)).1 (zTi.a (zTi.a hT)).2.1) k_Tp_76 zL_tT d_Tp_takeFellow_49 hc_Tp 0 rfl rfl rfl (Nat.le_of_ble_eq_true rfl) ⟨by decide, by decide⟩ ?_
          refine z_callVi hJ (m_Rd_addFellow (by omega)) k_Tp_79 zL_tR d_Tp_takeFellow_52 hc_Rd 2 rfl rfl rfl (Nat.le_of_ble_eq_true rfl) ⟨by decide, by decide⟩ ?_
          refine z_istore_n (lv' := [(0, _), (1, _), (2, _), (3, _)]) hJ d_Tp_takeFellow_55 (by decide) rfl ?_
          exact A56 _ _ hT.a.a.a (q_add_pi hP h_16 _ _) rfl (by simp [q_tkF, q_f2, c_7, c_16, c_31, c_41, h_16])
        · skip
          refine z_iconst (v := 0) hJ d_Tp_takeFellow_44 (by decide) ?_
          exact z_ri hR d_Tp_takeFellow_45 (by simp [q_tkF, q_f2, h_16, c_7, c_16, c_31, c_41]; try rfl) (by simp [q_tkF, q_f2, h_16, c_7, c_16, c_31, c_41])
    · skip
      have h_16 : ¬ (P.2.1 < 7) := by
        have e := nI_ltI (a := P.2.1) (b := 7) (by omega) (by omega)
        exact fun q => c_16 (e.mpr q)
      refine z_iconst (v := 0) hJ d_Tp_takeFellow_19 (by decide) ?_
      exact z_ri hR d_Tp_takeFellow_20 (by simp [q_tkF, h_16, c_7, c_16]; try rfl) (by simp [q_tkF, h_16, c_7, c_16])
set_option maxRecDepth 100000 in
theorem m_Tp_takeItem {g : Nat → Nat → Nat} {b c : Nat → Nat} {T : TS} {P : RS}  (hT : zTi T) (hP : zPi P) : zM g y_Tp_takeItem b_Tp_takeItem 2 (some .boolean) 7 [.ref (b 0), .ref (c 0)] (tW g b T ++ rW g c P) [.int (zB (q_item T P).1)] (tW g b (q_item T P).2.1 ++ rW g c (q_item T P).2.2) := by
  refine zMz (lv := [(0, .ref (b 0)), (1, .ref (c 0))]) (by decide) (Nat.le_of_ble_eq_true rfl) rfl (fun J hJ hR => ?_)
  refine z_aload_n hJ d_Tp_takeItem_0 0 rfl ?_
  refine z_ldcS (i := 0) hJ d_Tp_takeItem_1 rfl ?_
  refine z_callVi hJ (m_Tp_isWord hT.1 hT.2.1 hT.2.2.1 hT.2.2.2 (by decide)) k_Tp_40 zL_tT d_Tp_takeItem_3 hc_Tp 0 rfl rfl rfl (Nat.le_of_ble_eq_true rfl) ⟨by decide, by decide⟩ ?_
  refine zb_eq hJ d_Tp_takeItem_6 (fun c_6 => ?_) (fun c_6 => ?_)
  · skip
    refine z_aload_n hJ d_Tp_takeItem_15 0 rfl ?_
    refine z_ldcS (i := 9) hJ d_Tp_takeItem_16 rfl ?_
    refine z_callVi hJ (m_Tp_isWord hT.1 hT.2.1 hT.2.2.1 hT.2.2.2 (by decide)) k_Tp_40 zL_tT d_Tp_takeItem_18 hc_Tp 0 rfl rfl rfl (Nat.le_of_ble_eq_true rfl) ⟨by decide, by decide⟩ ?_
    refine zb_eq hJ d_Tp_takeItem_21 (fun c_21 => ?_) (fun c_21 => ?_)
    · skip
      refine z_aload_n hJ d_Tp_takeItem_31 0 rfl ?_
      refine z_ldcS (i := 10) hJ d_Tp_takeItem_32 rfl ?_
      refine z_callVi hJ (m_Tp_isWord hT.1 hT.2.1 hT.2.2.1 hT.2.2.2 (by decide)) k_Tp_40 zL_tT d_Tp_takeItem_34 hc_Tp 0 rfl rfl rfl (Nat.le_of_ble_eq_true rfl) ⟨by decide, by decide⟩ ?_
      refine zb_eq hJ d_Tp_takeItem_37 (fun c_37 => ?_) (fun c_37 => ?_)
      · skip
        refine z_aload_n hJ d_Tp_takeItem_47 0 rfl ?_
        refine z_aload_n hJ d_Tp_takeItem_48 1 rfl ?_
        refine z_callVi hJ (m_Tp_takeFellow hT hP) k_Tp_55 zL.id d_Tp_takeItem_49 hc_Tp 0 rfl rfl rfl (Nat.le_of_ble_eq_true rfl) ⟨by decide, by decide⟩ ?_
        exact z_ri hR d_Tp_takeItem_52 (by simp [q_item, c_6, c_21, c_37]; try rfl) (by simp [q_item, c_6, c_21, c_37])
      · skip
        refine z_aload_n hJ d_Tp_takeItem_40 0 rfl ?_
        refine z_aload_n hJ d_Tp_takeItem_41 1 rfl ?_
        refine z_iconst (v := 1) hJ d_Tp_takeItem_42 (by decide) ?_
        refine z_callVi hJ (m_Tp_takeSleep (e := true) hT hP) k_Tp_49 zL.id d_Tp_takeItem_43 hc_Tp 0 rfl rfl rfl (Nat.le_of_ble_eq_true rfl) ⟨by decide, by decide⟩ ?_
        exact z_ri hR d_Tp_takeItem_46 (by simp [q_item, c_6, c_21, c_37]; try rfl) (by simp [q_item, c_6, c_21, c_37])
    · skip
      refine z_aload_n hJ d_Tp_takeItem_24 0 rfl ?_
      refine z_aload_n hJ d_Tp_takeItem_25 1 rfl ?_
      refine z_iconst (v := 0) hJ d_Tp_takeItem_26 (by decide) ?_
      refine z_callVi hJ (m_Tp_takeSleep (e := false) hT hP) k_Tp_49 zL.id d_Tp_takeItem_27 hc_Tp 0 rfl rfl rfl (Nat.le_of_ble_eq_true rfl) ⟨by decide, by decide⟩ ?_
      exact z_ri hR d_Tp_takeItem_30 (by simp [q_item, c_6, c_21]; try rfl) (by simp [q_item, c_6, c_21])
  · skip
    refine z_aload_n hJ d_Tp_takeItem_9 0 rfl ?_
    refine z_aload_n hJ d_Tp_takeItem_10 1 rfl ?_
    refine z_callVi hJ (m_Tp_takeTask hT hP) k_Tp_44 zL.id d_Tp_takeItem_11 hc_Tp 0 rfl rfl rfl (Nat.le_of_ble_eq_true rfl) ⟨by decide, by decide⟩ ?_
    exact z_ri hR d_Tp_takeItem_14 (by simp [q_item, c_6]; try rfl) (by simp [q_item, c_6])
theorem q_item_inv {T : TS} {P : RS} (hT : zTi T) (hP : zPi P) : zTi (q_item T P).2.1 ∧ zPi (q_item T P).2.2 := by
  have f5 : ∀ (T : TS) (P : RS) (i : Nat), zTi T → zPi P → i < 7 → zTi (q_f5 T P i).2.1 ∧ zPi (q_f5 T P i).2.2 := by
    intro T P i hT hP hi
    unfold q_f5
    split
    · exact ⟨hT.a, q_slp_pi hP hi _⟩
    · exact ⟨hT, hP⟩
  have f4 : ∀ (T : TS) (P : RS) (i : Nat), zTi T → zPi P → i < 7 → zTi (q_f4 T P i).2.1 ∧ zPi (q_f4 T P i).2.2 := by
    intro T P i hT hP hi
    unfold q_f4
    split
    · split
      · exact f5 _ _ _ hT.a.a hP hi
      · exact ⟨hT.a, hP⟩
    · exact f5 _ _ _ hT hP hi
  have f3 : ∀ (T : TS) (P : RS) (i : Nat), zTi T → zPi P → i < 7 → zTi (q_f3 T P i).2.1 ∧ zPi (q_f3 T P i).2.2 := by
    intro T P i hT hP hi
    unfold q_f3
    split
    · split
      · exact f4 _ _ _ hT.a.a hP hi
      · exact ⟨hT.a, hP⟩
    · exact f4 _ _ _ hT hP hi
  have f2 : ∀ (T : TS) (P : RS) (k : Int32), P.2.1 < 7 → zTi T → zPi P → zTi (q_f2 T P k).2.1 ∧ zPi (q_f2 T P k).2.2 := by
    intro T P k h7 hT hP
    unfold q_f2
    split
    · split
      · exact f3 _ _ _ hT.a.a (q_add_pi hP h7 _ _) h7
      · exact ⟨hT.a, hP⟩
    · exact ⟨hT, hP⟩
  have t4 : ∀ (T : TS) (x y z : Int32), P.2.2.1 < 8 → zTi T → zTi (q_t4 T P x y z).2.1 ∧ zPi (q_t4 T P x y z).2.2 := by
    intro T x y z h8 hT
    unfold q_t4
    split
    · split
      · exact ⟨hT.a.a, q_addT_pi hP h8 _ _ _ _⟩
      · exact ⟨hT.a, hP⟩
    · exact ⟨hT, hP⟩
  have t3 : ∀ (T : TS) (x y : Int32), P.2.2.1 < 8 → zTi T → zTi (q_t3 T P x y).2.1 ∧ zPi (q_t3 T P x y).2.2 := by
    intro T x y h8 hT
    unfold q_t3
    split
    · split
      · exact t4 _ _ _ _ h8 hT.a.a
      · exact ⟨hT.a, hP⟩
    · exact ⟨hT, hP⟩
  have t2 : ∀ (T : TS) (x : Int32), P.2.2.1 < 8 → zTi T → zTi (q_t2 T P x).2.1 ∧ zPi (q_t2 T P x).2.2 := by
    intro T x h8 hT
    unfold q_t2
    split
    · split
      · exact t3 _ _ _ h8 hT.a.a
      · exact ⟨hT.a, hP⟩
    · exact ⟨hT, hP⟩
  unfold q_item
  split
  · unfold q_tkT
    split
    · rename_i h8
      split
      · exact t2 _ _ h8 hT.a.a
      · exact ⟨hT.a, hP⟩
    · exact ⟨hT, hP⟩
  · have s : ∀ c : Bool, zTi (q_tkS T P c).2.1 ∧ zPi (q_tkS T P c).2.2 := by
      intro c
      unfold q_tkS
      split
      · rename_i h
        have h7 := hP.1
        exact ⟨hT.a.a, q_slp_pi hP (by have := (q_isN_nat hP.1 h).1; omega) _⟩
      · exact ⟨hT.a, hP⟩
    split
    · exact s false
    · split
      · exact s true
      · unfold q_tkF
        split
        · exact ⟨hT, hP⟩
        · split
          · rename_i h7
            exact f2 _ _ _ h7 hT.a hP
          · exact ⟨hT, hP⟩
set_option maxRecDepth 100000 in
theorem m_Tp_tellTo {g : Nat → Nat → Nat} {b c : Nat → Nat} {T : TS} {P : RS} (hz : T.2.1 ≤ 120) (hP : zPi P) : zM g y_Tp_tellTo b_Tp_tellTo 3 (some .int) 8 [.ref (b 0), .ref (c 0)] (tW g b T ++ rW g c P) [.int (q_tell 120 (q_adv (T.1, T.2.1, T.2.2.1, T.2.2.2.1, 0, T.2.2.2.2.2)) P 0).1] (tW g b (q_tell 120 (q_adv (T.1, T.2.1, T.2.2.1, T.2.2.2.1, 0, T.2.2.2.2.2)) P 0).2.1 ++ rW g c (q_tell 120 (q_adv (T.1, T.2.1, T.2.2.1, T.2.2.2.1, 0, T.2.2.2.2.2)) P 0).2.2) := by
  refine zMi (lv := [(0, .ref (b 0)), (1, .ref (c 0))]) (by decide) (Nat.le_of_ble_eq_true rfl) rfl (fun J hJ hR => ?_)
  refine z_aload_n hJ d_Tp_tellTo_0 0 rfl ?_
  refine z_iconst (v := 0) hJ d_Tp_tellTo_1 (by decide) ?_
  refine z_put (w' := tW g b (T.1, T.2.1, T.2.2.1, T.2.2.2.1, 0, T.2.2.2.2.2) ++ rW g c P) hJ d_Tp_tellTo_2 hc_Tp f_Tp_25 0 rfl rfl rfl rfl (by decide) (Nat.le_of_ble_eq_true rfl) rfl ?_
  refine z_aload_n hJ d_Tp_tellTo_5 0 rfl ?_
  refine z_callVv hJ (m_Tp_advance (T := (T.1, T.2.1, T.2.2.1, T.2.2.2.1, 0, T.2.2.2.2.2)) hz (Nat.zero_le _)) k_Tp_31 zL_tT d_Tp_tellTo_6 hc_Tp 0 rfl rfl rfl (Nat.le_of_ble_eq_true rfl) ⟨by decide, by decide⟩ ?_
  refine z_iconst (v := 0) hJ d_Tp_tellTo_9 (by decide) ?_
  refine z_istore_n (lv' := [(0, _), (1, _), (2, _)]) hJ d_Tp_tellTo_10 (by decide) rfl ?_
  have L11 : ∀ j : Nat, j ≤ 120 → ∀ (T' : TS) (P' : RS), zTi T' → zPi P' → q_tell (120 - j) T' P' j = q_tell 120 (q_adv (T.1, T.2.1, T.2.2.1, T.2.2.2.1, 0, T.2.2.2.2.2)) P 0 → J (tW g b (T') ++ rW g c (P')) 11 [(0, .ref (b 0)), (1, .ref (c 0)), (2, .int (nI j))] [] := by
    refine zloop (120) (fun j hjN ih => ?_)
    intro T' P' hT' hP' hq
    have hi := q_item_inv hT' hP'
    have ht4 := hi.1.2.2.2
    refine z_iload_n hJ d_Tp_tellTo_11 2 rfl ?_
    refine z_bipush (v := 120) hJ d_Tp_tellTo_12 (by decide) ?_
    refine z_icmp_ge hJ d_Tp_tellTo_14 (fun c_14 => ?_) (fun c_14 => ?_)
    · skip
      have h_14 : 120 ≤ j := by
        have e := nI_leI (a := 120) (b := j) (by omega) (by omega)
        exact e.mp c_14
      obtain rfl : j = 120 := by omega
      refine z_iconst (v := (-1)) hJ d_Tp_tellTo_55 (by decide) ?_
      refine z_aload_n hJ d_Tp_tellTo_56 0 rfl ?_
      refine z_get hJ d_Tp_tellTo_57 hc_Tp f_Tp_22 0 rfl rfl (by decide) ?_
      refine z_isub hJ d_Tp_tellTo_60 ?_
      exact z_ri hR d_Tp_tellTo_61 (by rw [← hq]; rfl) (by rw [← hq]; rfl)
    · skip
      have h_14 : ¬ (120 ≤ j) := by
        have e := nI_leI (a := 120) (b := j) (by omega) (by omega)
        exact fun q => c_14 (e.mpr q)
      rw [show 120 - j = (120 - (j + 1)) + 1 by omega] at hq
      refine z_aload_n hJ d_Tp_tellTo_17 0 rfl ?_
      refine z_aload_n hJ d_Tp_tellTo_18 1 rfl ?_
      refine z_callVi hJ (m_Tp_takeItem hT' hP') k_Tp_34 zL.id d_Tp_tellTo_19 hc_Tp 0 rfl rfl rfl (Nat.le_of_ble_eq_true rfl) ⟨by decide, by decide⟩ ?_
      refine zb_eq hJ d_Tp_tellTo_22 (fun c_22 => ?_) (fun c_22 => ?_)
      · skip
        refine z_iconst (v := (-1)) hJ d_Tp_tellTo_55 (by decide) ?_
        refine z_aload_n hJ d_Tp_tellTo_56 0 rfl ?_
        refine z_get hJ d_Tp_tellTo_57 hc_Tp f_Tp_22 0 rfl rfl (by decide) ?_
        refine z_isub hJ d_Tp_tellTo_60 ?_
        exact z_ri hR d_Tp_tellTo_61 (by rw [← hq]; simp [q_tell, c_22]) (by rw [← hq]; simp [q_tell, c_22])
      · skip
        refine z_iinc (v := nI (j + 1)) (lv' := [(0, _), (1, _), (2, _)]) hJ d_Tp_tellTo_25 2 rfl (zinc _) (by decide) rfl ?_
        refine z_aload_n hJ d_Tp_tellTo_28 0 rfl ?_
        refine z_get hJ d_Tp_tellTo_29 hc_Tp f_Tp_19 0 rfl rfl (by decide) ?_
        refine z_if_ne hJ d_Tp_tellTo_32 (fun c_32 => ?_) (fun c_32 => ?_)
        · skip
          have h_32 : ¬ (((q_item T' P').2.1).2.2.1 = 0) := by
            have e := nI_eq (a := ((q_item T' P').2.1).2.2.1) (b := 0) (by omega) (by omega)
            exact fun q => c_32 (e.mpr q)
          refine z_aload_n hJ d_Tp_tellTo_37 0 rfl ?_
          refine z_get hJ d_Tp_tellTo_38 hc_Tp f_Tp_19 0 rfl rfl (by decide) ?_
          refine z_iconst (v := 3) hJ d_Tp_tellTo_41 (by decide) ?_
          refine z_icmp_eq hJ d_Tp_tellTo_42 (fun c_42 => ?_) (fun c_42 => ?_)
          · skip
            have h_42 : ((q_item T' P').2.1).2.2.1 = 3 := by
              have e := nI_eq (a := ((q_item T' P').2.1).2.2.1) (b := 3) (by omega) (by omega)
              exact e.mp c_42
            refine z_aload_n hJ d_Tp_tellTo_48 0 rfl ?_
            refine z_callVv hJ (m_Tp_advance hi.1.1 hi.1.2.1) k_Tp_31 zL_tT d_Tp_tellTo_49 hc_Tp 0 rfl rfl rfl (Nat.le_of_ble_eq_true rfl) ⟨by decide, by decide⟩ ?_
            refine z_goto hJ d_Tp_tellTo_52 ?_
            exact ih (by omega) _ _ hi.1.a hi.2 (by
              rw [← hq]
              simp [q_tell, c_22, h_32, h_42])
          · skip
            have h_42 : ¬ (((q_item T' P').2.1).2.2.1 = 3) := by
              have e := nI_eq (a := ((q_item T' P').2.1).2.2.1) (b := 3) (by omega) (by omega)
              exact fun q => c_42 (e.mpr q)
            refine z_goto hJ d_Tp_tellTo_45 ?_
            refine z_iconst (v := (-1)) hJ d_Tp_tellTo_55 (by decide) ?_
            refine z_aload_n hJ d_Tp_tellTo_56 0 rfl ?_
            refine z_get hJ d_Tp_tellTo_57 hc_Tp f_Tp_22 0 rfl rfl (by decide) ?_
            refine z_isub hJ d_Tp_tellTo_60 ?_
            exact z_ri hR d_Tp_tellTo_61 (by rw [← hq]; simp [q_tell, c_22, h_32, h_42]) (by rw [← hq]; simp [q_tell, c_22, h_32, h_42])
        · skip
          have h_32 : ((q_item T' P').2.1).2.2.1 = 0 := by
            have e := nI_eq (a := ((q_item T' P').2.1).2.2.1) (b := 0) (by omega) (by omega)
            exact e.mp c_32
          refine z_iload_n hJ d_Tp_tellTo_35 2 rfl ?_
          exact z_ri hR d_Tp_tellTo_36 (by rw [← hq]; simp [q_tell, c_22, h_32]) (by rw [← hq]; simp [q_tell, c_22, h_32])
  exact L11 0 (Nat.zero_le _) _ _ (zTi.adv hz (Nat.zero_le _)) hP rfl
