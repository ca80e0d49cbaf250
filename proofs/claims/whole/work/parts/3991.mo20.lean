set_option maxRecDepth 100000 in
theorem m_Mo_wantFellow {g : Nat → Nat → Nat} {a : Nat → Nat} {x0 : Nat → Int32} {x1 : Nat → Int32} {x3 : Nat → Int32} {x4 : Nat → Int32} {x5 : Nat → Int64} {x6 : Nat → Int32} {x7 : Nat} {x13 : Bool} {x14 : Nat → Int32} {x15 : Nat → Int32} {x16 : Nat → Int64} {x17 : Nat → Int64} {x18 : Nat → Int32} {x19 : Nat → Int32} {x20 : Bool} {T : TS} {P : RS} {k : Int32} (hT : zTk T x6 x7) (hR0 : zRo P x0) (hP : zPi P) : zM g y_Mo_wantFellow b_Mo_wantFellow 6 none 5 [.ref (a 0), .int k] (mV g a x0 x1 127 x3 x4 x5 x6 x7 (q_tks T) (T.2.2.2.1) (T.2.2.2.2.1) (q_tkw T) (q_tkv T) x13 x14 x15 x16 x17 x18 x19 x20) [] (mV g a (if (decide (P.2.1 < 7) && w_g3 (q_adv T)) = true then q_ad x0 P.2.1 k (w_v1 (q_adv T)) (w_v2 (q_adv T)) (w_v3 (q_adv T)) (zB (w_z (q_adv T))) else x0) x1 127 x3 x4 x5 x6 x7 (q_tks (if P.2.1 < 7 then w_t4 (q_adv T) else T)) ((if P.2.1 < 7 then w_t4 (q_adv T) else T).2.2.2.1) ((if P.2.1 < 7 then w_t4 (q_adv T) else T).2.2.2.2.1) (q_tkw (if P.2.1 < 7 then w_t4 (q_adv T) else T)) (q_tkv (if P.2.1 < 7 then w_t4 (q_adv T) else T)) ((decide (P.2.1 < 7) && w_g3 (q_adv T))) x14 x15 x16 x17 x18 x19 x20) := by
  have hj7 := hP.1
  have hj8 := hP.2.1
  refine zMv (lv := [(0, .ref (a 0)), (1, .int k)]) (by decide) (Nat.le_of_ble_eq_true rfl) rfl (fun J hJ hR => ?_)
  refine z_aload_n hJ d_Mo_wantFellow_0 0 rfl ?_
  refine z_aload_n hJ d_Mo_wantFellow_1 0 rfl ?_
  refine z_get hJ d_Mo_wantFellow_2 hc_Mo f_Mo_7 0 rfl rfl (by decide) ?_
  refine z_iconst (v := 1) hJ d_Mo_wantFellow_5 (by decide) ?_
  refine z_iald hJ d_Mo_wantFellow_6 1 (1) rfl rfl (by decide) (by decide) ?_
  refine z_c (y := nI P.2.1) hR0.2.1 ?_
  refine z_bipush (v := 7) hJ d_Mo_wantFellow_7 (by decide) ?_
  refine z_icmp_ge hJ d_Mo_wantFellow_9 (fun c_9 => ?_) (fun c_9 => ?_)
  · skip
    try dsimp only at c_9
    have h_9 : 7 ≤ P.2.1 := by
      have e := nI_leI (a := 7) (b := P.2.1) (by omega) (by omega)
      exact e.mp c_9
    refine z_iconst (v := 0) hJ d_Mo_wantFellow_16 (by decide) ?_
    refine z_put (w' := mV g a x0 x1 127 x3 x4 x5 x6 x7 (q_tks T) (T.2.2.2.1) (T.2.2.2.2.1) (q_tkw T) (q_tkv T) false x14 x15 x16 x17 x18 x19 x20) hJ d_Mo_wantFellow_17 hc_Mo f_Mo_247 0 rfl rfl rfl rfl (by decide) (Nat.le_of_ble_eq_true rfl) rfl ?_
    refine z_aload_n hJ d_Mo_wantFellow_20 0 rfl ?_
    refine z_get hJ d_Mo_wantFellow_21 hc_Mo f_Mo_247 0 rfl rfl (by decide) ?_
    refine zb_ne hJ d_Mo_wantFellow_24 (fun c_24 => False.elim (by exact absurd c_24 (by decide))) (fun c_24 => ?_)
    exact z_rv hR d_Mo_wantFellow_27 (by rw [decide_eq_false (show ¬ P.2.1 < 7 by omega), if_neg (show ¬ P.2.1 < 7 by omega)]; rfl)
  · skip
    try dsimp only at c_9
    have h_9 : ¬ (7 ≤ P.2.1) := by
      have e := nI_leI (a := 7) (b := P.2.1) (by omega) (by omega)
      exact fun q => c_9 (e.mpr q)
    refine z_iconst (v := 1) hJ d_Mo_wantFellow_12 (by decide) ?_
    refine z_goto hJ d_Mo_wantFellow_13 ?_
    refine z_put (w' := mV g a x0 x1 127 x3 x4 x5 x6 x7 (q_tks T) (T.2.2.2.1) (T.2.2.2.2.1) (q_tkw T) (q_tkv T) true x14 x15 x16 x17 x18 x19 x20) hJ d_Mo_wantFellow_17 hc_Mo f_Mo_247 0 rfl rfl rfl rfl (by decide) (Nat.le_of_ble_eq_true rfl) rfl ?_
    refine z_aload_n hJ d_Mo_wantFellow_20 0 rfl ?_
    refine z_get hJ d_Mo_wantFellow_21 hc_Mo f_Mo_247 0 rfl rfl (by decide) ?_
    refine zb_ne hJ d_Mo_wantFellow_24 (fun c_24 => ?_) (fun c_24 => False.elim (by exact absurd c_24 (by decide)))
    refine z_aload_n hJ d_Mo_wantFellow_28 0 rfl ?_
    refine z_callVv hJ (m_Mo_advance (T := T) hT) k_Mo_251 zL.id d_Mo_wantFellow_29 hc_Mo 0 rfl rfl rfl (Nat.le_of_ble_eq_true rfl) ⟨by decide, by decide⟩ ?_
    refine z_aload_n hJ d_Mo_wantFellow_32 0 rfl ?_
    refine z_ldc2 hJ d_Mo_wantFellow_33 c_Mo_257 ?_
    refine z_iconst (v := 0) hJ d_Mo_wantFellow_36 (by decide) ?_
    refine z_bipush (v := 30) hJ d_Mo_wantFellow_37 (by decide) ?_
    refine z_callVi hJ (m_Mo_wantAfter (T := (q_adv T)) (x13 := true) (i := 6) hT.adv (by decide) (by decide +kernel)) k_Mo_259 zL.id d_Mo_wantFellow_39 hc_Mo 0 rfl rfl rfl (Nat.le_of_ble_eq_true rfl) ⟨by decide, by decide⟩ ?_
    refine z_c (y := w_v1 (q_adv T)) rfl ?_
    refine z_istore_n (lv' := [(0, _), (1, _), (2, _)]) hJ d_Mo_wantFellow_42 (by decide) rfl ?_
    refine z_aload_n hJ d_Mo_wantFellow_43 0 rfl ?_
    refine z_ldc2 hJ d_Mo_wantFellow_44 c_Mo_263 ?_
    refine z_iconst (v := 0) hJ d_Mo_wantFellow_47 (by decide) ?_
    refine z_bipush (v := 30) hJ d_Mo_wantFellow_48 (by decide) ?_
    refine z_iload_n hJ d_Mo_wantFellow_50 2 rfl ?_
    refine z_callVi hJ (m_Mo_mayWant (T := w_t1 (q_adv T)) (x13 := w_g1 (q_adv T)) (i := 17) (hT.adv.wT _ _ _ _) (by decide) (by decide +kernel)) k_Mo_265 zL.id d_Mo_wantFellow_51 hc_Mo 0 rfl rfl rfl (Nat.le_of_ble_eq_true rfl) ⟨by decide, by decide⟩ ?_
    refine z_c (y := w_v2 (q_adv T)) rfl ?_
    refine z_istore_n (lv' := [(0, _), (1, _), (2, _), (3, _)]) hJ d_Mo_wantFellow_54 (by decide) rfl ?_
    refine z_aload_n hJ d_Mo_wantFellow_55 0 rfl ?_
    refine z_ldc2 hJ d_Mo_wantFellow_56 c_Mo_269 ?_
    refine z_iconst (v := 1) hJ d_Mo_wantFellow_59 (by decide) ?_
    refine z_bipush (v := 9) hJ d_Mo_wantFellow_60 (by decide) ?_
    refine z_iconst (v := 3) hJ d_Mo_wantFellow_62 (by decide) ?_
    refine z_callVi hJ (m_Mo_mayWant (T := w_t2 (q_adv T)) (x13 := w_g2 (q_adv T)) (i := 18) ((hT.adv.wT _ _ _ _).wT _ _ _ _) (by decide) (by decide +kernel)) k_Mo_265 zL.id d_Mo_wantFellow_63 hc_Mo 0 rfl rfl rfl (Nat.le_of_ble_eq_true rfl) ⟨by decide, by decide⟩ ?_
    refine z_c (y := w_v3 (q_adv T)) rfl ?_
    refine z_istore (lv' := [(0, _), (1, _), (2, _), (3, _), (4, _)]) hJ d_Mo_wantFellow_66 (by decide) rfl ?_
    refine z_aload_n hJ d_Mo_wantFellow_68 0 rfl ?_
    refine z_get hJ d_Mo_wantFellow_69 hc_Mo f_Mo_247 0 rfl rfl (by decide) ?_
    refine zb_eq hJ d_Mo_wantFellow_72 (fun c_72 => ?_) (fun c_72 => ?_)
    · skip
      try dsimp only at c_72
      have hzz : w_z (q_adv T) = false := by rw [w_z, show w_g3 (q_adv T) = false from c_72]; rfl
      have hz4 : w_t4 (q_adv T) = w_t3 (q_adv T) := by rw [w_t4, hzz]; rfl
      refine z_iconst (v := 0) hJ d_Mo_wantFellow_89 (by decide) ?_
      refine z_istore (lv' := [(0, _), (1, _), (2, _), (3, _), (4, _), (5, _)]) hJ d_Mo_wantFellow_90 (by decide) rfl ?_
      refine z_iload hJ d_Mo_wantFellow_92 5 rfl ?_
      refine z_if_eq hJ d_Mo_wantFellow_94 (fun _ => ?_) (fun c => absurd c (by decide))
      refine z_aload_n hJ d_Mo_wantFellow_101 0 rfl ?_
      refine z_get hJ d_Mo_wantFellow_102 hc_Mo f_Mo_247 0 rfl rfl (by decide) ?_
      refine zb_eq hJ d_Mo_wantFellow_105 (fun c_105 => ?_) (fun c_105 => ?_)
      · skip
        try dsimp only at c_105
        exact z_rv hR d_Mo_wantFellow_127 (by
            have k105 : w_g3 (q_adv T) = false := c_105
            rw [decide_eq_true (show P.2.1 < 7 by omega), if_pos (show P.2.1 < 7 by omega), Bool.true_and]
            rw [hz4, k105, c_105]
            rfl)
      · skip
        try dsimp only at c_105
        refine z_aload_n hJ d_Mo_wantFellow_108 0 rfl ?_
        refine z_iload_n hJ d_Mo_wantFellow_109 1 rfl ?_
        refine z_iload_n hJ d_Mo_wantFellow_110 2 rfl ?_
        refine z_iload_n hJ d_Mo_wantFellow_111 3 rfl ?_
        refine z_iload hJ d_Mo_wantFellow_112 4 rfl ?_
        refine z_iload hJ d_Mo_wantFellow_114 5 rfl ?_
        refine z_if_eq hJ d_Mo_wantFellow_116 (fun _ => ?_) (fun c => absurd c (by decide))
        refine z_iconst (v := 0) hJ d_Mo_wantFellow_123 (by decide) ?_
        refine z_callVv hJ (m_Mo_addOne (M := (x0, x1, 127, x3, x4, x5, x6, x7, q_tks (w_t3 (q_adv T)), (w_t3 (q_adv T)).2.2.2.1, (w_t3 (q_adv T)).2.2.2.2.1, q_tkw (w_t3 (q_adv T)), q_tkv (w_t3 (q_adv T)), w_g3 (q_adv T), x14, x15, x16, x17, x18, x19, x20)) (n := P.2.1) hR0.2.1 (by omega)) k_Mo_72 zL_mv d_Mo_wantFellow_124 hc_Mo 0 rfl rfl rfl (Nat.le_of_ble_eq_true rfl) ⟨by decide, by decide⟩ ?_
        exact z_rv hR d_Mo_wantFellow_127 (by
            have k105 : w_g3 (q_adv T) = true := c_105
            rw [decide_eq_true (show P.2.1 < 7 by omega), if_pos (show P.2.1 < 7 by omega), Bool.true_and]
            rw [hz4, hzz, k105]
            rfl)
    · skip
      try dsimp only at c_72
      refine z_aload_n hJ d_Mo_wantFellow_75 0 rfl ?_
      refine z_ldc2 hJ d_Mo_wantFellow_76 c_Mo_271 ?_
      refine z_callVi hJ (m_Mo_isWord (T := w_t3 (q_adv T)) (i := 19) (((hT.adv.wT _ _ _ _).wT _ _ _ _).wT _ _ _ _) (by decide) (by decide +kernel)) k_Mo_223 zL.id d_Mo_wantFellow_79 hc_Mo 0 rfl rfl rfl (Nat.le_of_ble_eq_true rfl) ⟨by decide, by decide⟩ ?_
      refine zb_eq hJ d_Mo_wantFellow_82 (fun c_82 => ?_) (fun c_82 => ?_)
      · skip
        try dsimp only at c_82
        have hzz : w_z (q_adv T) = false := by rw [w_z, c_82, Bool.and_false]
        have hz4 : w_t4 (q_adv T) = w_t3 (q_adv T) := by rw [w_t4, hzz]; rfl
        refine z_iconst (v := 0) hJ d_Mo_wantFellow_89 (by decide) ?_
        refine z_istore (lv' := [(0, _), (1, _), (2, _), (3, _), (4, _), (5, _)]) hJ d_Mo_wantFellow_90 (by decide) rfl ?_
        refine z_iload hJ d_Mo_wantFellow_92 5 rfl ?_
        refine z_if_eq hJ d_Mo_wantFellow_94 (fun _ => ?_) (fun c => absurd c (by decide))
        refine z_aload_n hJ d_Mo_wantFellow_101 0 rfl ?_
        refine z_get hJ d_Mo_wantFellow_102 hc_Mo f_Mo_247 0 rfl rfl (by decide) ?_
        refine zb_eq hJ d_Mo_wantFellow_105 (fun c_105 => ?_) (fun c_105 => ?_)
        · skip
          try dsimp only at c_105
          exact z_rv hR d_Mo_wantFellow_127 (by
              have k105 : w_g3 (q_adv T) = false := c_105
              rw [decide_eq_true (show P.2.1 < 7 by omega), if_pos (show P.2.1 < 7 by omega), Bool.true_and]
              rw [hz4, k105, c_105]
              rfl)
        · skip
          try dsimp only at c_105
          refine z_aload_n hJ d_Mo_wantFellow_108 0 rfl ?_
          refine z_iload_n hJ d_Mo_wantFellow_109 1 rfl ?_
          refine z_iload_n hJ d_Mo_wantFellow_110 2 rfl ?_
          refine z_iload_n hJ d_Mo_wantFellow_111 3 rfl ?_
          refine z_iload hJ d_Mo_wantFellow_112 4 rfl ?_
          refine z_iload hJ d_Mo_wantFellow_114 5 rfl ?_
          refine z_if_eq hJ d_Mo_wantFellow_116 (fun _ => ?_) (fun c => absurd c (by decide))
          refine z_iconst (v := 0) hJ d_Mo_wantFellow_123 (by decide) ?_
          refine z_callVv hJ (m_Mo_addOne (M := (x0, x1, 127, x3, x4, x5, x6, x7, q_tks (w_t3 (q_adv T)), (w_t3 (q_adv T)).2.2.2.1, (w_t3 (q_adv T)).2.2.2.2.1, q_tkw (w_t3 (q_adv T)), q_tkv (w_t3 (q_adv T)), w_g3 (q_adv T), x14, x15, x16, x17, x18, x19, x20)) (n := P.2.1) hR0.2.1 (by omega)) k_Mo_72 zL_mv d_Mo_wantFellow_124 hc_Mo 0 rfl rfl rfl (Nat.le_of_ble_eq_true rfl) ⟨by decide, by decide⟩ ?_
          exact z_rv hR d_Mo_wantFellow_127 (by
              have k105 : w_g3 (q_adv T) = true := c_105
              rw [decide_eq_true (show P.2.1 < 7 by omega), if_pos (show P.2.1 < 7 by omega), Bool.true_and]
              rw [hz4, hzz, k105]
              rfl)
      · skip
        try dsimp only at c_82
        have hzz : w_z (q_adv T) = true := by rw [w_z, show w_g3 (q_adv T) = true from c_72, c_82]; rfl
        have hz4 : w_t4 (q_adv T) = q_adv (w_t3 (q_adv T)) := by rw [w_t4, hzz]; rfl
        refine z_iconst (v := 1) hJ d_Mo_wantFellow_85 (by decide) ?_
        refine z_goto hJ d_Mo_wantFellow_86 ?_
        refine z_istore (lv' := [(0, _), (1, _), (2, _), (3, _), (4, _), (5, _)]) hJ d_Mo_wantFellow_90 (by decide) rfl ?_
        refine z_iload hJ d_Mo_wantFellow_92 5 rfl ?_
        refine z_if_eq hJ d_Mo_wantFellow_94 (fun c => absurd c (by decide)) (fun _ => ?_)
        refine z_aload_n hJ d_Mo_wantFellow_97 0 rfl ?_
        refine z_callVv hJ (m_Mo_advance (T := w_t3 (q_adv T)) (((hT.adv.wT _ _ _ _).wT _ _ _ _).wT _ _ _ _)) k_Mo_251 zL.id d_Mo_wantFellow_98 hc_Mo 0 rfl rfl rfl (Nat.le_of_ble_eq_true rfl) ⟨by decide, by decide⟩ ?_
        refine z_aload_n hJ d_Mo_wantFellow_101 0 rfl ?_
        refine z_get hJ d_Mo_wantFellow_102 hc_Mo f_Mo_247 0 rfl rfl (by decide) ?_
        refine zb_eq hJ d_Mo_wantFellow_105 (fun c_105 => ?_) (fun c_105 => ?_)
        · skip
          try dsimp only at c_105
          exact z_rv hR d_Mo_wantFellow_127 (by
              have k105 : w_g3 (q_adv T) = false := c_105
              rw [decide_eq_true (show P.2.1 < 7 by omega), if_pos (show P.2.1 < 7 by omega), Bool.true_and]
              rw [hz4, k105, c_105]
              rfl)
        · skip
          try dsimp only at c_105
          refine z_aload_n hJ d_Mo_wantFellow_108 0 rfl ?_
          refine z_iload_n hJ d_Mo_wantFellow_109 1 rfl ?_
          refine z_iload_n hJ d_Mo_wantFellow_110 2 rfl ?_
          refine z_iload_n hJ d_Mo_wantFellow_111 3 rfl ?_
          refine z_iload hJ d_Mo_wantFellow_112 4 rfl ?_
          refine z_iload hJ d_Mo_wantFellow_114 5 rfl ?_
          refine z_if_eq hJ d_Mo_wantFellow_116 (fun c => absurd c (by decide)) (fun _ => ?_)
          refine z_iconst (v := 1) hJ d_Mo_wantFellow_119 (by decide) ?_
          refine z_goto hJ d_Mo_wantFellow_120 ?_
          refine z_callVv hJ (m_Mo_addOne (M := (x0, x1, 127, x3, x4, x5, x6, x7, q_tks (q_adv (w_t3 (q_adv T))), (q_adv (w_t3 (q_adv T))).2.2.2.1, (q_adv (w_t3 (q_adv T))).2.2.2.2.1, q_tkw (q_adv (w_t3 (q_adv T))), q_tkv (q_adv (w_t3 (q_adv T))), w_g3 (q_adv T), x14, x15, x16, x17, x18, x19, x20)) (n := P.2.1) hR0.2.1 (by omega)) k_Mo_72 zL_mv d_Mo_wantFellow_124 hc_Mo 0 rfl rfl rfl (Nat.le_of_ble_eq_true rfl) ⟨by decide, by decide⟩ ?_
          exact z_rv hR d_Mo_wantFellow_127 (by
              have k105 : w_g3 (q_adv T) = true := c_105
              rw [decide_eq_true (show P.2.1 < 7 by omega), if_pos (show P.2.1 < 7 by omega), Bool.true_and]
              rw [hz4, hzz, k105]
              rfl)
set_option maxRecDepth 100000 in
theorem m_Mo_wantTask {g : Nat → Nat → Nat} {a : Nat → Nat} {x0 : Nat → Int32} {x1 : Nat → Int32} {x3 : Nat → Int32} {x4 : Nat → Int32} {x5 : Nat → Int64} {x6 : Nat → Int32} {x7 : Nat} {x13 : Bool} {x14 : Nat → Int32} {x15 : Nat → Int32} {x16 : Nat → Int64} {x17 : Nat → Int64} {x18 : Nat → Int32} {x19 : Nat → Int32} {x20 : Bool} {T : TS} {P : RS}  (hT : zTk T x6 x7) (hR0 : zRo P x0) (hP : zPi P) : zM g y_Mo_wantTask b_Mo_wantTask 5 none 5 [.ref (a 0)] (mV g a x0 x1 127 x3 x4 x5 x6 x7 (q_tks T) (T.2.2.2.1) (T.2.2.2.2.1) (q_tkw T) (q_tkv T) x13 x14 x15 x16 x17 x18 x19 x20) [] (mV g a (if (decide (P.2.2.1 < 8) && (decide (0 ≤ q_sort (q_adv T)) && w_h3 (q_adv (q_adv T)))) = true then q_at x0 P.2.2.1 (q_sort (q_adv T)) (w_v1 (q_adv (q_adv T))) (w_u2 (q_adv (q_adv T))) (w_u3 (q_adv (q_adv T))) else x0) x1 127 x3 x4 x5 x6 x7 (q_tks (if P.2.2.1 < 8 then (if 0 ≤ q_sort (q_adv T) then w_s3 (q_adv (q_adv T)) else (q_adv T)) else T)) ((if P.2.2.1 < 8 then (if 0 ≤ q_sort (q_adv T) then w_s3 (q_adv (q_adv T)) else (q_adv T)) else T).2.2.2.1) ((if P.2.2.1 < 8 then (if 0 ≤ q_sort (q_adv T) then w_s3 (q_adv (q_adv T)) else (q_adv T)) else T).2.2.2.2.1) (q_tkw (if P.2.2.1 < 8 then (if 0 ≤ q_sort (q_adv T) then w_s3 (q_adv (q_adv T)) else (q_adv T)) else T)) (q_tkv (if P.2.2.1 < 8 then (if 0 ≤ q_sort (q_adv T) then w_s3 (q_adv (q_adv T)) else (q_adv T)) else T)) ((decide (P.2.2.1 < 8) && (decide (0 ≤ q_sort (q_adv T)) && w_h3 (q_adv (q_adv T))))) x14 x15 x16 x17 x18 x19 x20) := by
  have hj7 := hP.1
  have hj8 := hP.2.1
  refine zMv (lv := [(0, .ref (a 0))]) (by decide) (Nat.le_of_ble_eq_true rfl) rfl (fun J hJ hR => ?_)
  refine z_aload_n hJ d_Mo_wantTask_0 0 rfl ?_
  refine z_aload_n hJ d_Mo_wantTask_1 0 rfl ?_
  refine z_get hJ d_Mo_wantTask_2 hc_Mo f_Mo_7 0 rfl rfl (by decide) ?_
  refine z_iconst (v := 2) hJ d_Mo_wantTask_5 (by decide) ?_
  refine z_iald hJ d_Mo_wantTask_6 1 (2) rfl rfl (by decide) (by decide) ?_
  refine z_c (y := nI P.2.2.1) hR0.2.2.1 ?_
  refine z_bipush (v := 8) hJ d_Mo_wantTask_7 (by decide) ?_
  refine z_icmp_ge hJ d_Mo_wantTask_9 (fun c_9 => ?_) (fun c_9 => ?_)
  · skip
    try dsimp only at c_9
    have h_9 : 8 ≤ P.2.2.1 := by
      have e := nI_leI (a := 8) (b := P.2.2.1) (by omega) (by omega)
      exact e.mp c_9
    refine z_iconst (v := 0) hJ d_Mo_wantTask_16 (by decide) ?_
    refine z_put (w' := mV g a x0 x1 127 x3 x4 x5 x6 x7 (q_tks T) (T.2.2.2.1) (T.2.2.2.2.1) (q_tkw T) (q_tkv T) false x14 x15 x16 x17 x18 x19 x20) hJ d_Mo_wantTask_17 hc_Mo f_Mo_247 0 rfl rfl rfl rfl (by decide) (Nat.le_of_ble_eq_true rfl) rfl ?_
    refine z_aload_n hJ d_Mo_wantTask_20 0 rfl ?_
    refine z_get hJ d_Mo_wantTask_21 hc_Mo f_Mo_247 0 rfl rfl (by decide) ?_
    refine zb_ne hJ d_Mo_wantTask_24 (fun c_24 => False.elim (by exact absurd c_24 (by decide))) (fun c_24 => ?_)
    exact z_rv hR d_Mo_wantTask_27 (by rw [decide_eq_false (show ¬ P.2.2.1 < 8 by omega), if_neg (show ¬ P.2.2.1 < 8 by omega)]; rfl)
  · skip
    try dsimp only at c_9
    have h_9 : ¬ (8 ≤ P.2.2.1) := by
      have e := nI_leI (a := 8) (b := P.2.2.1) (by omega) (by omega)
      exact fun q => c_9 (e.mpr q)
    refine z_iconst (v := 1) hJ d_Mo_wantTask_12 (by decide) ?_
    refine z_goto hJ d_Mo_wantTask_13 ?_
    refine z_put (w' := mV g a x0 x1 127 x3 x4 x5 x6 x7 (q_tks T) (T.2.2.2.1) (T.2.2.2.2.1) (q_tkw T) (q_tkv T) true x14 x15 x16 x17 x18 x19 x20) hJ d_Mo_wantTask_17 hc_Mo f_Mo_247 0 rfl rfl rfl rfl (by decide) (Nat.le_of_ble_eq_true rfl) rfl ?_
    refine z_aload_n hJ d_Mo_wantTask_20 0 rfl ?_
    refine z_get hJ d_Mo_wantTask_21 hc_Mo f_Mo_247 0 rfl rfl (by decide) ?_
    refine zb_ne hJ d_Mo_wantTask_24 (fun c_24 => ?_) (fun c_24 => False.elim (by exact absurd c_24 (by decide)))
    refine z_aload_n hJ d_Mo_wantTask_28 0 rfl ?_
    refine z_callVv hJ (m_Mo_advance (T := T) hT) k_Mo_251 zL.id d_Mo_wantTask_29 hc_Mo 0 rfl rfl rfl (Nat.le_of_ble_eq_true rfl) ⟨by decide, by decide⟩ ?_
    refine z_aload_n hJ d_Mo_wantTask_32 0 rfl ?_
    refine z_callVi hJ (m_Mo_sortHere (T := (q_adv T)) hT.adv) k_Mo_273 zL.id d_Mo_wantTask_33 hc_Mo 0 rfl rfl rfl (Nat.le_of_ble_eq_true rfl) ⟨by decide, by decide⟩ ?_
    refine z_istore_n (lv' := [(0, _), (1, _)]) hJ d_Mo_wantTask_36 (by decide) rfl ?_
    refine z_aload_n hJ d_Mo_wantTask_37 0 rfl ?_
    refine z_iload_n hJ d_Mo_wantTask_38 1 rfl ?_
    refine z_if_lt hJ d_Mo_wantTask_39 (fun c_39 => ?_) (fun c_39 => ?_)
    · skip
      try dsimp only at c_39
      have hso : ¬ 0 ≤ q_sort (q_adv T) := Int32.not_le.mpr c_39
      refine z_iconst (v := 0) hJ d_Mo_wantTask_46 (by decide) ?_
      refine z_put (w' := mV g a x0 x1 127 x3 x4 x5 x6 x7 (q_tks (q_adv T)) ((q_adv T).2.2.2.1) ((q_adv T).2.2.2.2.1) (q_tkw (q_adv T)) (q_tkv (q_adv T)) false x14 x15 x16 x17 x18 x19 x20) hJ d_Mo_wantTask_47 hc_Mo f_Mo_247 0 rfl rfl rfl rfl (by decide) (Nat.le_of_ble_eq_true rfl) rfl ?_
      refine z_aload_n hJ d_Mo_wantTask_50 0 rfl ?_
      refine z_get hJ d_Mo_wantTask_51 hc_Mo f_Mo_247 0 rfl rfl (by decide) ?_
      refine zb_ne hJ d_Mo_wantTask_54 (fun c_54 => False.elim (by exact absurd c_54 (by decide))) (fun c_54 => ?_)
      exact z_rv hR d_Mo_wantTask_57 (by
          rw [decide_eq_true (show P.2.2.1 < 8 by omega), if_pos (show P.2.2.1 < 8 by omega), Bool.true_and]
          rw [decide_eq_false hso, if_neg hso]; rfl)
    · skip
      try dsimp only at c_39
      have hso : 0 ≤ q_sort (q_adv T) := Int32.not_lt.mp c_39
      refine z_iconst (v := 1) hJ d_Mo_wantTask_42 (by decide) ?_
      refine z_goto hJ d_Mo_wantTask_43 ?_
      refine z_put (w' := mV g a x0 x1 127 x3 x4 x5 x6 x7 (q_tks (q_adv T)) ((q_adv T).2.2.2.1) ((q_adv T).2.2.2.2.1) (q_tkw (q_adv T)) (q_tkv (q_adv T)) true x14 x15 x16 x17 x18 x19 x20) hJ d_Mo_wantTask_47 hc_Mo f_Mo_247 0 rfl rfl rfl rfl (by decide) (Nat.le_of_ble_eq_true rfl) rfl ?_
      refine z_aload_n hJ d_Mo_wantTask_50 0 rfl ?_
      refine z_get hJ d_Mo_wantTask_51 hc_Mo f_Mo_247 0 rfl rfl (by decide) ?_
      refine zb_ne hJ d_Mo_wantTask_54 (fun c_54 => ?_) (fun c_54 => False.elim (by exact absurd c_54 (by decide)))
      refine z_aload_n hJ d_Mo_wantTask_58 0 rfl ?_
      refine z_callVv hJ (m_Mo_advance (T := (q_adv T)) hT.adv) k_Mo_251 zL.id d_Mo_wantTask_59 hc_Mo 0 rfl rfl rfl (Nat.le_of_ble_eq_true rfl) ⟨by decide, by decide⟩ ?_
      refine z_aload_n hJ d_Mo_wantTask_62 0 rfl ?_
      refine z_ldc2 hJ d_Mo_wantTask_63 c_Mo_257 ?_
      refine z_iconst (v := 0) hJ d_Mo_wantTask_66 (by decide) ?_
      refine z_bipush (v := 30) hJ d_Mo_wantTask_67 (by decide) ?_
      refine z_callVi hJ (m_Mo_wantAfter (T := (q_adv (q_adv T))) (x13 := true) (i := 6) hT.adv.adv (by decide) (by decide +kernel)) k_Mo_259 zL.id d_Mo_wantTask_69 hc_Mo 0 rfl rfl rfl (Nat.le_of_ble_eq_true rfl) ⟨by decide, by decide⟩ ?_
      refine z_c (y := w_v1 (q_adv (q_adv T))) rfl ?_
      refine z_istore_n (lv' := [(0, _), (1, _), (2, _)]) hJ d_Mo_wantTask_72 (by decide) rfl ?_
      refine z_aload_n hJ d_Mo_wantTask_73 0 rfl ?_
      refine z_ldc2 hJ d_Mo_wantTask_74 c_Mo_276 ?_
      refine z_iconst (v := 1) hJ d_Mo_wantTask_77 (by decide) ?_
      refine z_bipush (v := 99) hJ d_Mo_wantTask_78 (by decide) ?_
      refine z_callVi hJ (m_Mo_wantAfter (T := w_t1 (q_adv (q_adv T))) (x13 := w_g1 (q_adv (q_adv T))) (i := 7) (hT.adv.adv.wT _ _ _ _) (by decide) (by decide +kernel)) k_Mo_259 zL.id d_Mo_wantTask_80 hc_Mo 0 rfl rfl rfl (Nat.le_of_ble_eq_true rfl) ⟨by decide, by decide⟩ ?_
      refine z_c (y := w_u2 (q_adv (q_adv T))) rfl ?_
      refine z_istore_n (lv' := [(0, _), (1, _), (2, _), (3, _)]) hJ d_Mo_wantTask_83 (by decide) rfl ?_
      refine z_aload_n hJ d_Mo_wantTask_84 0 rfl ?_
      refine z_ldc2 hJ d_Mo_wantTask_85 c_Mo_278 ?_
      refine z_iconst (v := 0) hJ d_Mo_wantTask_88 (by decide) ?_
      refine z_bipush (v := 99) hJ d_Mo_wantTask_89 (by decide) ?_
      refine z_callVi hJ (m_Mo_wantAfter (T := w_s2 (q_adv (q_adv T))) (x13 := w_h2 (q_adv (q_adv T))) (i := 8) ((hT.adv.adv.wT _ _ _ _).wT _ _ _ _) (by decide) (by decide +kernel)) k_Mo_259 zL.id d_Mo_wantTask_91 hc_Mo 0 rfl rfl rfl (Nat.le_of_ble_eq_true rfl) ⟨by decide, by decide⟩ ?_
      refine z_c (y := w_u3 (q_adv (q_adv T))) rfl ?_
      refine z_istore (lv' := [(0, _), (1, _), (2, _), (3, _), (4, _)]) hJ d_Mo_wantTask_94 (by decide) rfl ?_
      refine z_aload_n hJ d_Mo_wantTask_96 0 rfl ?_
      refine z_get hJ d_Mo_wantTask_97 hc_Mo f_Mo_247 0 rfl rfl (by decide) ?_
      refine zb_eq hJ d_Mo_wantTask_100 (fun c_100 => ?_) (fun c_100 => ?_)
      · skip
        try dsimp only at c_100
        exact z_rv hR d_Mo_wantTask_112 (by
            rw [decide_eq_true (show P.2.2.1 < 8 by omega), if_pos (show P.2.2.1 < 8 by omega), Bool.true_and]
            rw [decide_eq_true hso, if_pos hso, Bool.true_and, show w_h3 (q_adv (q_adv T)) = false from c_100, c_100]
            rfl)
      · skip
        try dsimp only at c_100
        refine z_aload_n hJ d_Mo_wantTask_103 0 rfl ?_
        refine z_iload_n hJ d_Mo_wantTask_104 1 rfl ?_
        refine z_iload_n hJ d_Mo_wantTask_105 2 rfl ?_
        refine z_iload_n hJ d_Mo_wantTask_106 3 rfl ?_
        refine z_iload hJ d_Mo_wantTask_107 4 rfl ?_
        refine z_callVv hJ (m_Mo_addTask (M := (x0, x1, 127, x3, x4, x5, x6, x7, q_tks (w_s3 (q_adv (q_adv T))), (w_s3 (q_adv (q_adv T))).2.2.2.1, (w_s3 (q_adv (q_adv T))).2.2.2.2.1, q_tkw (w_s3 (q_adv (q_adv T))), q_tkv (w_s3 (q_adv (q_adv T))), w_h3 (q_adv (q_adv T)), x14, x15, x16, x17, x18, x19, x20)) (n := P.2.2.1) hR0.2.2.1 (by omega)) k_Mo_113 zL_mv d_Mo_wantTask_109 hc_Mo 0 rfl rfl rfl (Nat.le_of_ble_eq_true rfl) ⟨by decide, by decide⟩ ?_
        exact z_rv hR d_Mo_wantTask_112 (by
            rw [decide_eq_true (show P.2.2.1 < 8 by omega), if_pos (show P.2.2.1 < 8 by omega), Bool.true_and]
            rw [decide_eq_true hso, if_pos hso, Bool.true_and, show w_h3 (q_adv (q_adv T)) = true from c_100]
            rfl)
set_option maxRecDepth 100000 in
theorem m_Mo_wantSleep {g : Nat → Nat → Nat} {a : Nat → Nat} {x0 : Nat → Int32} {x1 : Nat → Int32} {x3 : Nat → Int32} {x4 : Nat → Int32} {x5 : Nat → Int64} {x6 : Nat → Int32} {x7 : Nat} {x14 : Nat → Int32} {x15 : Nat → Int32} {x16 : Nat → Int64} {x17 : Nat → Int64} {x18 : Nat → Int32} {x19 : Nat → Int32} {x20 : Bool} {T : TS} {P : RS} {e : Bool} (hT : zTk T x6 x7) (hR0 : zRo P x0) (hP : zPi P) : zM g y_Mo_wantSleep b_Mo_wantSleep 3 none 4 [.ref (a 0), .int (zB e)] (mV g a x0 x1 127 x3 x4 x5 x6 x7 (q_tks T) (T.2.2.2.1) (T.2.2.2.2.1) (q_tkw T) (q_tkv T) true x14 x15 x16 x17 x18 x19 x20) [] (mV g a (if q_isN (q_adv T) 0 (nI P.2.1 - 1) = true then upd x0 (3 + 5 * (q_adv T).2.2.2.2.2.toNatClampNeg + 4) (zB e) else x0) x1 127 x3 x4 x5 x6 x7 (q_tks (w_n true (q_adv T) 0 (nI P.2.1 - 1))) ((w_n true (q_adv T) 0 (nI P.2.1 - 1)).2.2.2.1) ((w_n true (q_adv T) 0 (nI P.2.1 - 1)).2.2.2.2.1) (q_tkw (w_n true (q_adv T) 0 (nI P.2.1 - 1))) (q_tkv (w_n true (q_adv T) 0 (nI P.2.1 - 1))) (q_isN (q_adv T) 0 (nI P.2.1 - 1)) x14 x15 x16 x17 x18 x19 x20) := by
  have hj7 := hP.1
  have hj8 := hP.2.1
  refine zMv (lv := [(0, .ref (a 0)), (1, .int (zB e))]) (by decide) (Nat.le_of_ble_eq_true rfl) rfl (fun J hJ hR => ?_)
  refine z_aload_n hJ d_Mo_wantSleep_0 0 rfl ?_
  refine z_callVv hJ (m_Mo_advance (T := T) hT) k_Mo_251 zL.id d_Mo_wantSleep_1 hc_Mo 0 rfl rfl rfl (Nat.le_of_ble_eq_true rfl) ⟨by decide, by decide⟩ ?_
  refine z_aload_n hJ d_Mo_wantSleep_4 0 rfl ?_
  refine z_iconst (v := 0) hJ d_Mo_wantSleep_5 (by decide) ?_
  refine z_aload_n hJ d_Mo_wantSleep_6 0 rfl ?_
  refine z_get hJ d_Mo_wantSleep_7 hc_Mo f_Mo_7 0 rfl rfl (by decide) ?_
  refine z_iconst (v := 1) hJ d_Mo_wantSleep_10 (by decide) ?_
  refine z_iald hJ d_Mo_wantSleep_11 1 (1) rfl rfl (by decide) (by decide) ?_
  refine z_c (y := nI P.2.1) hR0.2.1 ?_
  refine z_iconst (v := 1) hJ d_Mo_wantSleep_12 (by decide) ?_
  refine z_isub hJ d_Mo_wantSleep_13 ?_
  refine z_callVi hJ (m_Mo_wantNumber (T := (q_adv T)) (x13 := true) hT.adv) k_Mo_254 zL.id d_Mo_wantSleep_14 hc_Mo 0 rfl rfl rfl (Nat.le_of_ble_eq_true rfl) ⟨by decide, by decide⟩ ?_
  refine z_istore_n (lv' := [(0, _), (1, _), (2, _)]) hJ d_Mo_wantSleep_17 (by decide) rfl ?_
  refine z_aload_n hJ d_Mo_wantSleep_18 0 rfl ?_
  refine z_get hJ d_Mo_wantSleep_19 hc_Mo f_Mo_247 0 rfl rfl (by decide) ?_
  refine zb_eq hJ d_Mo_wantSleep_22 (fun c_22 => ?_) (fun c_22 => ?_)
  · skip
    try dsimp only at c_22
    exact z_rv hR d_Mo_wantSleep_32 (by
        have c := c_22
        rw [Bool.true_and] at c
        simp [c])
  · skip
    try dsimp only at c_22
    have hn := q_isN_nat hP.1 c_22
    refine z_aload_n hJ d_Mo_wantSleep_25 0 rfl ?_
    refine z_iload_n hJ d_Mo_wantSleep_26 2 rfl ?_
    refine z_c (y := nI (q_adv T).2.2.2.2.2.toNatClampNeg) ((q_tkv_N c_22).trans hn.2) ?_
    refine z_iconst (v := 4) hJ d_Mo_wantSleep_27 (by decide) ?_
    refine z_iload_n hJ d_Mo_wantSleep_28 1 rfl ?_
    refine z_callVv hJ (m_Mo_puts (p := (q_adv T).2.2.2.2.2.toNatClampNeg) (w := 4) (by omega) (by decide)) k_Mo_56 zL_mv d_Mo_wantSleep_29 hc_Mo 0 rfl rfl rfl (Nat.le_of_ble_eq_true rfl) ⟨by decide, by decide⟩ ?_
    exact z_rv hR d_Mo_wantSleep_32 (by
        have c := c_22
        rw [Bool.true_and] at c
        simp [c])
