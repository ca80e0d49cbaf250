set_option maxRecDepth 100000 in
theorem m_Mo_wantItem {g : Nat → Nat → Nat} {a : Nat → Nat} {x0 : Nat → Int32} {x1 : Nat → Int32} {x3 : Nat → Int32} {x4 : Nat → Int32} {x5 : Nat → Int64} {x6 : Nat → Int32} {x7 : Nat} {x14 : Nat → Int32} {x15 : Nat → Int32} {x16 : Nat → Int64} {x17 : Nat → Int64} {x18 : Nat → Int32} {x19 : Nat → Int32} {x20 : Bool} {T : TS} {P : RS} (hT : zTk T x6 x7) (hR0 : zRo P x0) (hP : zPi P) (hG : zRg P) : zM g y_Mo_wantItem b_Mo_wantItem 1 none 6 [.ref (a 0)] (mV g a x0 x1 127 x3 x4 x5 x6 x7 (q_tks T) (T.2.2.2.1) (T.2.2.2.2.1) (q_tkw T) (q_tkv T) true x14 x15 x16 x17 x18 x19 x20) [] (mV g a (if (q_item T P).1 = true then q_rw (q_item T P).2.2 else x0) x1 127 x3 x4 x5 x6 x7 (q_tks (q_item T P).2.1) ((q_item T P).2.1.2.2.2.1) ((q_item T P).2.1.2.2.2.2.1) (q_tkw (q_item T P).2.1) (q_tkv (q_item T P).2.1) ((q_item T P).1) x14 x15 x16 x17 x18 x19 x20) := by
  refine zMv (lv := [(0, .ref (a 0))]) (by decide) (Nat.le_of_ble_eq_true rfl) rfl (fun J hJ hR => ?_)
  refine z_aload_n hJ d_Mo_wantItem_0 0 rfl ?_
  refine z_callVi hJ (m_Mo_kindHere (T := T) hT) k_Mo_280 zL.id d_Mo_wantItem_1 hc_Mo 0 rfl rfl rfl (Nat.le_of_ble_eq_true rfl) ⟨by decide, by decide⟩ ?_
  refine z_if_lt hJ d_Mo_wantItem_4 (fun c_4 => ?_) (fun c_4 => ?_)
  · skip
    try dsimp only at c_4
    refine z_aload_n hJ d_Mo_wantItem_18 0 rfl ?_
    refine z_ldc2 hJ d_Mo_wantItem_19 c_Mo_287 ?_
    refine z_callVi hJ (m_Mo_isWord (T := T) (i := 0) hT (by decide) (by decide +kernel)) k_Mo_223 zL.id d_Mo_wantItem_22 hc_Mo 0 rfl rfl rfl (Nat.le_of_ble_eq_true rfl) ⟨by decide, by decide⟩ ?_
    refine zb_eq hJ d_Mo_wantItem_25 (fun c_25 => ?_) (fun c_25 => ?_)
    · skip
      try dsimp only at c_25
      refine z_aload_n hJ d_Mo_wantItem_35 0 rfl ?_
      refine z_ldc2 hJ d_Mo_wantItem_36 c_Mo_292 ?_
      refine z_callVi hJ (m_Mo_isWord (T := T) (i := 9) hT (by decide) (by decide +kernel)) k_Mo_223 zL.id d_Mo_wantItem_39 hc_Mo 0 rfl rfl rfl (Nat.le_of_ble_eq_true rfl) ⟨by decide, by decide⟩ ?_
      refine zb_eq hJ d_Mo_wantItem_42 (fun c_42 => ?_) (fun c_42 => ?_)
      · skip
        try dsimp only at c_42
        refine z_aload_n hJ d_Mo_wantItem_53 0 rfl ?_
        refine z_ldc2 hJ d_Mo_wantItem_54 c_Mo_297 ?_
        refine z_callVi hJ (m_Mo_isWord (T := T) (i := 10) hT (by decide) (by decide +kernel)) k_Mo_223 zL.id d_Mo_wantItem_57 hc_Mo 0 rfl rfl rfl (Nat.le_of_ble_eq_true rfl) ⟨by decide, by decide⟩ ?_
        refine zb_eq hJ d_Mo_wantItem_60 (fun c_60 => ?_) (fun c_60 => ?_)
        · skip
          try dsimp only at c_60
          refine z_aload_n hJ d_Mo_wantItem_71 0 rfl ?_
          refine z_iconst (v := 0) hJ d_Mo_wantItem_72 (by decide) ?_
          refine z_put (w' := mV g a x0 x1 127 x3 x4 x5 x6 x7 (q_tks T) (T.2.2.2.1) (T.2.2.2.2.1) (q_tkw T) (q_tkv T) false x14 x15 x16 x17 x18 x19 x20) hJ d_Mo_wantItem_73 hc_Mo f_Mo_247 0 rfl rfl rfl rfl (by decide) (Nat.le_of_ble_eq_true rfl) rfl ?_
          exact z_rv hR d_Mo_wantItem_76 (by rw [w_it0 c_4 c_25 c_42 c_60]; rfl)
        · skip
          try dsimp only at c_60
          refine z_aload_n hJ d_Mo_wantItem_63 0 rfl ?_
          refine z_iconst (v := 1) hJ d_Mo_wantItem_64 (by decide) ?_
          refine z_callVv hJ (m_Mo_wantSleep (T := T) (P := P) (e := true) hT hR0 hP) k_Mo_294 zL.id d_Mo_wantItem_65 hc_Mo 0 rfl rfl rfl (Nat.le_of_ble_eq_true rfl) ⟨by decide, by decide⟩ ?_
          refine z_goto hJ d_Mo_wantItem_68 ?_
          refine z_arri (f' := if (q_item T P).1 = true then q_rw (q_item T P).2.2 else x0) (w' := mV g a (if (q_item T P).1 = true then q_rw (q_item T P).2.2 else x0) x1 127 x3 x4 x5 x6 x7 (q_tks (w_n true (q_adv T) 0 (nI P.2.1 - 1))) ((w_n true (q_adv T) 0 (nI P.2.1 - 1)).2.2.2.1) ((w_n true (q_adv T) 0 (nI P.2.1 - 1)).2.2.2.2.1) (q_tkw (w_n true (q_adv T) 0 (nI P.2.1 - 1))) (q_tkv (w_n true (q_adv T) 0 (nI P.2.1 - 1))) (q_isN (q_adv T) 0 (nI P.2.1 - 1)) x14 x15 x16 x17 x18 x19 x20) hJ 1 rfl (w_itS (c := true) hT hR0 hP c_60).2.2 rfl ?_
          exact z_rv hR d_Mo_wantItem_76 (by rw [(w_itS (c := true) hT hR0 hP c_60).1, (w_itS (c := true) hT hR0 hP c_60).2.1])
      · skip
        try dsimp only at c_42
        refine z_aload_n hJ d_Mo_wantItem_45 0 rfl ?_
        refine z_iconst (v := 0) hJ d_Mo_wantItem_46 (by decide) ?_
        refine z_callVv hJ (m_Mo_wantSleep (T := T) (P := P) (e := false) hT hR0 hP) k_Mo_294 zL.id d_Mo_wantItem_47 hc_Mo 0 rfl rfl rfl (Nat.le_of_ble_eq_true rfl) ⟨by decide, by decide⟩ ?_
        refine z_goto hJ d_Mo_wantItem_50 ?_
        refine z_arri (f' := if (q_item T P).1 = true then q_rw (q_item T P).2.2 else x0) (w' := mV g a (if (q_item T P).1 = true then q_rw (q_item T P).2.2 else x0) x1 127 x3 x4 x5 x6 x7 (q_tks (w_n true (q_adv T) 0 (nI P.2.1 - 1))) ((w_n true (q_adv T) 0 (nI P.2.1 - 1)).2.2.2.1) ((w_n true (q_adv T) 0 (nI P.2.1 - 1)).2.2.2.2.1) (q_tkw (w_n true (q_adv T) 0 (nI P.2.1 - 1))) (q_tkv (w_n true (q_adv T) 0 (nI P.2.1 - 1))) (q_isN (q_adv T) 0 (nI P.2.1 - 1)) x14 x15 x16 x17 x18 x19 x20) hJ 1 rfl (w_itS (c := false) hT hR0 hP c_42).2.2 rfl ?_
        exact z_rv hR d_Mo_wantItem_76 (by rw [(w_itS (c := false) hT hR0 hP c_42).1, (w_itS (c := false) hT hR0 hP c_42).2.1])
    · skip
      try dsimp only at c_25
      refine z_aload_n hJ d_Mo_wantItem_28 0 rfl ?_
      refine z_callVv hJ (m_Mo_wantTask (T := T) (P := P) hT hR0 hP) k_Mo_289 zL.id d_Mo_wantItem_29 hc_Mo 0 rfl rfl rfl (Nat.le_of_ble_eq_true rfl) ⟨by decide, by decide⟩ ?_
      refine z_goto hJ d_Mo_wantItem_32 ?_
      refine z_arri (f' := if (q_item T P).1 = true then q_rw (q_item T P).2.2 else x0) (w' := mV g a (if (q_item T P).1 = true then q_rw (q_item T P).2.2 else x0) x1 127 x3 x4 x5 x6 x7 (q_tks (if P.2.2.1 < 8 then (if 0 ≤ q_sort (q_adv T) then w_s3 (q_adv (q_adv T)) else (q_adv T)) else T)) ((if P.2.2.1 < 8 then (if 0 ≤ q_sort (q_adv T) then w_s3 (q_adv (q_adv T)) else (q_adv T)) else T).2.2.2.1) ((if P.2.2.1 < 8 then (if 0 ≤ q_sort (q_adv T) then w_s3 (q_adv (q_adv T)) else (q_adv T)) else T).2.2.2.2.1) (q_tkw (if P.2.2.1 < 8 then (if 0 ≤ q_sort (q_adv T) then w_s3 (q_adv (q_adv T)) else (q_adv T)) else T)) (q_tkv (if P.2.2.1 < 8 then (if 0 ≤ q_sort (q_adv T) then w_s3 (q_adv (q_adv T)) else (q_adv T)) else T)) ((decide (P.2.2.1 < 8) && (decide (0 ≤ q_sort (q_adv T)) && w_h3 (q_adv (q_adv T))))) x14 x15 x16 x17 x18 x19 x20) hJ 1 rfl (w_itT hT hR0 hP c_25).2.2 rfl ?_
      exact z_rv hR d_Mo_wantItem_76 (by rw [(w_itT hT hR0 hP c_25).1, (w_itT hT hR0 hP c_25).2.1])
  · skip
    try dsimp only at c_4
    refine z_aload_n hJ d_Mo_wantItem_7 0 rfl ?_
    refine z_aload_n hJ d_Mo_wantItem_8 0 rfl ?_
    refine z_callVi hJ (m_Mo_kindHere (T := T) hT) k_Mo_280 zL.id d_Mo_wantItem_9 hc_Mo 0 rfl rfl rfl (Nat.le_of_ble_eq_true rfl) ⟨by decide, by decide⟩ ?_
    refine z_callVv hJ (m_Mo_wantFellow (T := T) (P := P) hT hR0 hP) k_Mo_283 zL.id d_Mo_wantItem_12 hc_Mo 0 rfl rfl rfl (Nat.le_of_ble_eq_true rfl) ⟨by decide, by decide⟩ ?_
    refine z_goto hJ d_Mo_wantItem_15 ?_
    refine z_arri (f' := if (q_item T P).1 = true then q_rw (q_item T P).2.2 else x0) (w' := mV g a (if (q_item T P).1 = true then q_rw (q_item T P).2.2 else x0) x1 127 x3 x4 x5 x6 x7 (q_tks (if P.2.1 < 7 then w_t4 (q_adv T) else T)) ((if P.2.1 < 7 then w_t4 (q_adv T) else T).2.2.2.1) ((if P.2.1 < 7 then w_t4 (q_adv T) else T).2.2.2.2.1) (q_tkw (if P.2.1 < 7 then w_t4 (q_adv T) else T)) (q_tkv (if P.2.1 < 7 then w_t4 (q_adv T) else T)) ((decide (P.2.1 < 7) && w_g3 (q_adv T))) x14 x15 x16 x17 x18 x19 x20) hJ 1 rfl (w_itF hT hR0 hP hG c_4).2.2 rfl ?_
    exact z_rv hR d_Mo_wantItem_76 (by rw [(w_itF hT hR0 hP hG c_4).1, (w_itF hT hR0 hP hG c_4).2.1])
