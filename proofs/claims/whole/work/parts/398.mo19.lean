theorem q_cmp0 {x y : Int64} : (lg_cmp x y = 0 ↔ x = y) := by
  unfold lg_cmp
  by_cases h : x = y
  · subst h; simp
  · simp only [h, iff_false]
    intro q
    by_cases h1 : y < x
    · simp [h1] at q
    · by_cases h2 : x < y
      · simp [h1, h2] at q
      · exact h (Int64.le_antisymm (Int64.not_lt.mp h1) (Int64.not_lt.mp h2))
set_option maxRecDepth 100000 in
theorem m_Mo_isWord {g : Nat → Nat → Nat} {a : Nat → Nat} {x0 : Nat → Int32} {x1 : Nat → Int32} {x3 : Nat → Int32} {x4 : Nat → Int32} {x5 : Nat → Int64} {x6 : Nat → Int32} {x7 : Nat} {x13 : Bool} {x14 : Nat → Int32} {x15 : Nat → Int32} {x16 : Nat → Int64} {x17 : Nat → Int64} {x18 : Nat → Int32} {x19 : Nat → Int32} {x20 : Bool} {T : TS} {i : Nat} {u : Int64} (hT : zTk T x6 x7) (hi : i < 20) (hu : u = zwd i) : zM g y_Mo_isWord b_Mo_isWord 3 (some .boolean) 0 [.ref (a 0), .long u] (mV g a x0 x1 127 x3 x4 x5 x6 x7 (q_tks T) (T.2.2.2.1) (T.2.2.2.2.1) (q_tkw T) (q_tkv T) x13 x14 x15 x16 x17 x18 x19 x20) [.int (zB (q_isW T i))] (mV g a x0 x1 127 x3 x4 x5 x6 x7 (q_tks T) (T.2.2.2.1) (T.2.2.2.2.1) (q_tkw T) (q_tkv T) x13 x14 x15 x16 x17 x18 x19 x20) := by
  refine zMz (lv := [(0, .ref (a 0)), (1, .long u)]) (by decide) (Nat.le_of_ble_eq_true rfl) rfl (fun J hJ hR => ?_)
  refine z_aload_n hJ d_Mo_isWord_0 0 rfl ?_
  refine z_get hJ d_Mo_isWord_1 hc_Mo f_Mo_205 0 rfl rfl (by decide) ?_
  refine z_iconst (v := 1) hJ d_Mo_isWord_4 (by decide) ?_
  refine z_icmp_ne hJ d_Mo_isWord_5 (fun c_5 => ?_) (fun c_5 => ?_)
  · skip
    try dsimp only at c_5
    refine z_iconst (v := 0) hJ d_Mo_isWord_21 (by decide) ?_
    exact z_ri hR d_Mo_isWord_22 (by rw [q_isW_m hi hT, decide_eq_false c_5]; rfl) rfl
  · skip
    try dsimp only at c_5
    refine z_aload_n hJ d_Mo_isWord_8 0 rfl ?_
    refine z_get hJ d_Mo_isWord_9 hc_Mo f_Mo_208 0 rfl rfl (by decide) ?_
    refine z_lload_n hJ d_Mo_isWord_12 1 rfl ?_
    refine z_lcmp hJ d_Mo_isWord_13 ?_
    refine z_if_ne hJ d_Mo_isWord_14 (fun c_14 => ?_) (fun c_14 => ?_)
    · skip
      try dsimp only at c_14
      refine z_iconst (v := 0) hJ d_Mo_isWord_21 (by decide) ?_
      exact z_ri hR d_Mo_isWord_22 (by rw [q_isW_m hi hT, ← hu, decide_eq_false (fun e => c_14 (q_cmp0.mpr e)), Bool.and_false]; rfl) rfl
    · skip
      try dsimp only at c_14
      refine z_iconst (v := 1) hJ d_Mo_isWord_17 (by decide) ?_
      refine z_goto hJ d_Mo_isWord_18 ?_
      exact z_ri hR d_Mo_isWord_22 (by rw [q_isW_m hi hT, ← hu, decide_eq_true c_5, decide_eq_true (q_cmp0.mp c_14)]; rfl) rfl
set_option maxRecDepth 100000 in
theorem m_Mo_kindHere {g : Nat → Nat → Nat} {a : Nat → Nat} {x0 : Nat → Int32} {x1 : Nat → Int32} {x3 : Nat → Int32} {x4 : Nat → Int32} {x5 : Nat → Int64} {x6 : Nat → Int32} {x7 : Nat} {x13 : Bool} {x14 : Nat → Int32} {x15 : Nat → Int32} {x16 : Nat → Int64} {x17 : Nat → Int64} {x18 : Nat → Int32} {x19 : Nat → Int32} {x20 : Bool} {T : TS}  (hT : zTk T x6 x7) : zM g y_Mo_kindHere b_Mo_kindHere 1 (some .int) 1 [.ref (a 0)] (mV g a x0 x1 127 x3 x4 x5 x6 x7 (q_tks T) (T.2.2.2.1) (T.2.2.2.2.1) (q_tkw T) (q_tkv T) x13 x14 x15 x16 x17 x18 x19 x20) [.int (q_kind T)] (mV g a x0 x1 127 x3 x4 x5 x6 x7 (q_tks T) (T.2.2.2.1) (T.2.2.2.2.1) (q_tkw T) (q_tkv T) x13 x14 x15 x16 x17 x18 x19 x20) := by
  refine zMi (lv := [(0, .ref (a 0))]) (by decide) (Nat.le_of_ble_eq_true rfl) rfl (fun J hJ hR => ?_)
  refine z_aload_n hJ d_Mo_kindHere_0 0 rfl ?_
  refine z_ldc2 hJ d_Mo_kindHere_1 c_Mo_221 ?_
  refine z_callVi hJ (m_Mo_isWord (T := T) (i := 11) hT (by decide) (by decide +kernel)) k_Mo_223 zL.id d_Mo_kindHere_4 hc_Mo 0 rfl rfl rfl (Nat.le_of_ble_eq_true rfl) ⟨by decide, by decide⟩ ?_
  refine zb_eq hJ d_Mo_kindHere_7 (fun c_7 => ?_) (fun c_7 => ?_)
  · skip
    try dsimp only at c_7
    refine z_aload_n hJ d_Mo_kindHere_14 0 rfl ?_
    refine z_ldc2 hJ d_Mo_kindHere_15 c_Mo_227 ?_
    refine z_callVi hJ (m_Mo_isWord (T := T) (i := 12) hT (by decide) (by decide +kernel)) k_Mo_223 zL.id d_Mo_kindHere_18 hc_Mo 0 rfl rfl rfl (Nat.le_of_ble_eq_true rfl) ⟨by decide, by decide⟩ ?_
    refine zb_eq hJ d_Mo_kindHere_21 (fun c_21 => ?_) (fun c_21 => ?_)
    · skip
      try dsimp only at c_21
      refine z_aload_n hJ d_Mo_kindHere_28 0 rfl ?_
      refine z_ldc2 hJ d_Mo_kindHere_29 c_Mo_229 ?_
      refine z_callVi hJ (m_Mo_isWord (T := T) (i := 13) hT (by decide) (by decide +kernel)) k_Mo_223 zL.id d_Mo_kindHere_32 hc_Mo 0 rfl rfl rfl (Nat.le_of_ble_eq_true rfl) ⟨by decide, by decide⟩ ?_
      refine zb_eq hJ d_Mo_kindHere_35 (fun c_35 => ?_) (fun c_35 => ?_)
      · skip
        try dsimp only at c_35
        refine z_aload_n hJ d_Mo_kindHere_42 0 rfl ?_
        refine z_ldc2 hJ d_Mo_kindHere_43 c_Mo_231 ?_
        refine z_callVi hJ (m_Mo_isWord (T := T) (i := 14) hT (by decide) (by decide +kernel)) k_Mo_223 zL.id d_Mo_kindHere_46 hc_Mo 0 rfl rfl rfl (Nat.le_of_ble_eq_true rfl) ⟨by decide, by decide⟩ ?_
        refine zb_eq hJ d_Mo_kindHere_49 (fun c_49 => ?_) (fun c_49 => ?_)
        · skip
          try dsimp only at c_49
          refine z_aload_n hJ d_Mo_kindHere_56 0 rfl ?_
          refine z_ldc2 hJ d_Mo_kindHere_57 c_Mo_233 ?_
          refine z_callVi hJ (m_Mo_isWord (T := T) (i := 15) hT (by decide) (by decide +kernel)) k_Mo_223 zL.id d_Mo_kindHere_60 hc_Mo 0 rfl rfl rfl (Nat.le_of_ble_eq_true rfl) ⟨by decide, by decide⟩ ?_
          refine zb_eq hJ d_Mo_kindHere_63 (fun c_63 => ?_) (fun c_63 => ?_)
          · skip
            try dsimp only at c_63
            refine z_aload_n hJ d_Mo_kindHere_70 0 rfl ?_
            refine z_ldc2 hJ d_Mo_kindHere_71 c_Mo_235 ?_
            refine z_callVi hJ (m_Mo_isWord (T := T) (i := 16) hT (by decide) (by decide +kernel)) k_Mo_223 zL.id d_Mo_kindHere_74 hc_Mo 0 rfl rfl rfl (Nat.le_of_ble_eq_true rfl) ⟨by decide, by decide⟩ ?_
            refine zb_eq hJ d_Mo_kindHere_77 (fun c_77 => ?_) (fun c_77 => ?_)
            · skip
              try dsimp only at c_77
              refine z_iconst (v := (-1)) hJ d_Mo_kindHere_84 (by decide) ?_
              exact z_ri hR d_Mo_kindHere_85 (by simp [q_kind, c_7, c_21, c_35, c_49, c_63, c_77]) rfl
            · skip
              try dsimp only at c_77
              refine z_iconst (v := 5) hJ d_Mo_kindHere_80 (by decide) ?_
              refine z_goto hJ d_Mo_kindHere_81 ?_
              exact z_ri hR d_Mo_kindHere_85 (by simp [q_kind, c_7, c_21, c_35, c_49, c_63, c_77]) rfl
          · skip
            try dsimp only at c_63
            refine z_iconst (v := 4) hJ d_Mo_kindHere_66 (by decide) ?_
            refine z_goto hJ d_Mo_kindHere_67 ?_
            exact z_ri hR d_Mo_kindHere_85 (by simp [q_kind, c_7, c_21, c_35, c_49, c_63]) rfl
        · skip
          try dsimp only at c_49
          refine z_iconst (v := 3) hJ d_Mo_kindHere_52 (by decide) ?_
          refine z_goto hJ d_Mo_kindHere_53 ?_
          exact z_ri hR d_Mo_kindHere_85 (by simp [q_kind, c_7, c_21, c_35, c_49]) rfl
      · skip
        try dsimp only at c_35
        refine z_iconst (v := 2) hJ d_Mo_kindHere_38 (by decide) ?_
        refine z_goto hJ d_Mo_kindHere_39 ?_
        exact z_ri hR d_Mo_kindHere_85 (by simp [q_kind, c_7, c_21, c_35]) rfl
    · skip
      try dsimp only at c_21
      refine z_iconst (v := 1) hJ d_Mo_kindHere_24 (by decide) ?_
      refine z_goto hJ d_Mo_kindHere_25 ?_
      exact z_ri hR d_Mo_kindHere_85 (by simp [q_kind, c_7, c_21]) rfl
  · skip
    try dsimp only at c_7
    refine z_iconst (v := 0) hJ d_Mo_kindHere_10 (by decide) ?_
    refine z_goto hJ d_Mo_kindHere_11 ?_
    exact z_ri hR d_Mo_kindHere_85 (by simp [q_kind, c_7]) rfl
set_option maxRecDepth 100000 in
theorem m_Mo_sortHere {g : Nat → Nat → Nat} {a : Nat → Nat} {x0 : Nat → Int32} {x1 : Nat → Int32} {x3 : Nat → Int32} {x4 : Nat → Int32} {x5 : Nat → Int64} {x6 : Nat → Int32} {x7 : Nat} {x13 : Bool} {x14 : Nat → Int32} {x15 : Nat → Int32} {x16 : Nat → Int64} {x17 : Nat → Int64} {x18 : Nat → Int32} {x19 : Nat → Int32} {x20 : Bool} {T : TS}  (hT : zTk T x6 x7) : zM g y_Mo_sortHere b_Mo_sortHere 1 (some .int) 1 [.ref (a 0)] (mV g a x0 x1 127 x3 x4 x5 x6 x7 (q_tks T) (T.2.2.2.1) (T.2.2.2.2.1) (q_tkw T) (q_tkv T) x13 x14 x15 x16 x17 x18 x19 x20) [.int (q_sort T)] (mV g a x0 x1 127 x3 x4 x5 x6 x7 (q_tks T) (T.2.2.2.1) (T.2.2.2.2.1) (q_tkw T) (q_tkv T) x13 x14 x15 x16 x17 x18 x19 x20) := by
  refine zMi (lv := [(0, .ref (a 0))]) (by decide) (Nat.le_of_ble_eq_true rfl) rfl (fun J hJ hR => ?_)
  refine z_aload_n hJ d_Mo_sortHere_0 0 rfl ?_
  refine z_ldc2 hJ d_Mo_sortHere_1 c_Mo_237 ?_
  refine z_callVi hJ (m_Mo_isWord (T := T) (i := 1) hT (by decide) (by decide +kernel)) k_Mo_223 zL.id d_Mo_sortHere_4 hc_Mo 0 rfl rfl rfl (Nat.le_of_ble_eq_true rfl) ⟨by decide, by decide⟩ ?_
  refine zb_eq hJ d_Mo_sortHere_7 (fun c_7 => ?_) (fun c_7 => ?_)
  · skip
    try dsimp only at c_7
    refine z_aload_n hJ d_Mo_sortHere_14 0 rfl ?_
    refine z_ldc2 hJ d_Mo_sortHere_15 c_Mo_239 ?_
    refine z_callVi hJ (m_Mo_isWord (T := T) (i := 2) hT (by decide) (by decide +kernel)) k_Mo_223 zL.id d_Mo_sortHere_18 hc_Mo 0 rfl rfl rfl (Nat.le_of_ble_eq_true rfl) ⟨by decide, by decide⟩ ?_
    refine zb_eq hJ d_Mo_sortHere_21 (fun c_21 => ?_) (fun c_21 => ?_)
    · skip
      try dsimp only at c_21
      refine z_aload_n hJ d_Mo_sortHere_28 0 rfl ?_
      refine z_ldc2 hJ d_Mo_sortHere_29 c_Mo_241 ?_
      refine z_callVi hJ (m_Mo_isWord (T := T) (i := 3) hT (by decide) (by decide +kernel)) k_Mo_223 zL.id d_Mo_sortHere_32 hc_Mo 0 rfl rfl rfl (Nat.le_of_ble_eq_true rfl) ⟨by decide, by decide⟩ ?_
      refine zb_eq hJ d_Mo_sortHere_35 (fun c_35 => ?_) (fun c_35 => ?_)
      · skip
        try dsimp only at c_35
        refine z_aload_n hJ d_Mo_sortHere_42 0 rfl ?_
        refine z_ldc2 hJ d_Mo_sortHere_43 c_Mo_243 ?_
        refine z_callVi hJ (m_Mo_isWord (T := T) (i := 4) hT (by decide) (by decide +kernel)) k_Mo_223 zL.id d_Mo_sortHere_46 hc_Mo 0 rfl rfl rfl (Nat.le_of_ble_eq_true rfl) ⟨by decide, by decide⟩ ?_
        refine zb_eq hJ d_Mo_sortHere_49 (fun c_49 => ?_) (fun c_49 => ?_)
        · skip
          try dsimp only at c_49
          refine z_aload_n hJ d_Mo_sortHere_56 0 rfl ?_
          refine z_ldc2 hJ d_Mo_sortHere_57 c_Mo_245 ?_
          refine z_callVi hJ (m_Mo_isWord (T := T) (i := 5) hT (by decide) (by decide +kernel)) k_Mo_223 zL.id d_Mo_sortHere_60 hc_Mo 0 rfl rfl rfl (Nat.le_of_ble_eq_true rfl) ⟨by decide, by decide⟩ ?_
          refine zb_eq hJ d_Mo_sortHere_63 (fun c_63 => ?_) (fun c_63 => ?_)
          · skip
            try dsimp only at c_63
            refine z_iconst (v := (-1)) hJ d_Mo_sortHere_70 (by decide) ?_
            exact z_ri hR d_Mo_sortHere_71 (by simp [q_sort, c_7, c_21, c_35, c_49, c_63]) rfl
          · skip
            try dsimp only at c_63
            refine z_iconst (v := 4) hJ d_Mo_sortHere_66 (by decide) ?_
            refine z_goto hJ d_Mo_sortHere_67 ?_
            exact z_ri hR d_Mo_sortHere_71 (by simp [q_sort, c_7, c_21, c_35, c_49, c_63]) rfl
        · skip
          try dsimp only at c_49
          refine z_iconst (v := 3) hJ d_Mo_sortHere_52 (by decide) ?_
          refine z_goto hJ d_Mo_sortHere_53 ?_
          exact z_ri hR d_Mo_sortHere_71 (by simp [q_sort, c_7, c_21, c_35, c_49]) rfl
      · skip
        try dsimp only at c_35
        refine z_iconst (v := 2) hJ d_Mo_sortHere_38 (by decide) ?_
        refine z_goto hJ d_Mo_sortHere_39 ?_
        exact z_ri hR d_Mo_sortHere_71 (by simp [q_sort, c_7, c_21, c_35]) rfl
    · skip
      try dsimp only at c_21
      refine z_iconst (v := 1) hJ d_Mo_sortHere_24 (by decide) ?_
      refine z_goto hJ d_Mo_sortHere_25 ?_
      exact z_ri hR d_Mo_sortHere_71 (by simp [q_sort, c_7, c_21]) rfl
  · skip
    try dsimp only at c_7
    refine z_iconst (v := 0) hJ d_Mo_sortHere_10 (by decide) ?_
    refine z_goto hJ d_Mo_sortHere_11 ?_
    exact z_ri hR d_Mo_sortHere_71 (by simp [q_sort, c_7]) rfl
set_option maxRecDepth 100000 in
theorem m_Mo_wantNumber {g : Nat → Nat → Nat} {a : Nat → Nat} {x0 : Nat → Int32} {x1 : Nat → Int32} {x3 : Nat → Int32} {x4 : Nat → Int32} {x5 : Nat → Int64} {x6 : Nat → Int32} {x7 : Nat} {x13 : Bool} {x14 : Nat → Int32} {x15 : Nat → Int32} {x16 : Nat → Int64} {x17 : Nat → Int64} {x18 : Nat → Int32} {x19 : Nat → Int32} {x20 : Bool} {T : TS} {lo hi : Int32} (hT : zTk T x6 x7) : zM g y_Mo_wantNumber b_Mo_wantNumber 4 (some .int) 3 [.ref (a 0), .int lo, .int hi] (mV g a x0 x1 127 x3 x4 x5 x6 x7 (q_tks T) (T.2.2.2.1) (T.2.2.2.2.1) (q_tkw T) (q_tkv T) x13 x14 x15 x16 x17 x18 x19 x20) [.int (q_tkv T)] (mV g a x0 x1 127 x3 x4 x5 x6 x7 (q_tks (w_n x13 T lo hi)) ((w_n x13 T lo hi).2.2.2.1) ((w_n x13 T lo hi).2.2.2.2.1) (q_tkw (w_n x13 T lo hi)) (q_tkv (w_n x13 T lo hi)) ((x13 && q_isN T lo hi)) x14 x15 x16 x17 x18 x19 x20) := by
  refine zMi (lv := [(0, .ref (a 0)), (1, .int lo), (2, .int hi)]) (by decide) (Nat.le_of_ble_eq_true rfl) rfl (fun J hJ hR => ?_)
  refine z_aload_n hJ d_Mo_wantNumber_0 0 rfl ?_
  refine z_get hJ d_Mo_wantNumber_1 hc_Mo f_Mo_212 0 rfl rfl (by decide) ?_
  refine z_istore_n (lv' := [(0, _), (1, _), (2, _), (3, _)]) hJ d_Mo_wantNumber_4 (by decide) rfl ?_
  refine z_aload_n hJ d_Mo_wantNumber_5 0 rfl ?_
  refine z_aload_n hJ d_Mo_wantNumber_6 0 rfl ?_
  refine z_get hJ d_Mo_wantNumber_7 hc_Mo f_Mo_247 0 rfl rfl (by decide) ?_
  refine zb_eq hJ d_Mo_wantNumber_10 (fun c_10 => ?_) (fun c_10 => ?_)
  · skip
    try dsimp only at c_10
    have hG : (x13 && q_isN T lo hi) = false := by rw [c_10]; rfl
    refine z_iconst (v := 0) hJ d_Mo_wantNumber_34 (by decide) ?_
    refine z_put (w' := mV g a x0 x1 127 x3 x4 x5 x6 x7 (q_tks T) (T.2.2.2.1) (T.2.2.2.2.1) (q_tkw T) (q_tkv T) false x14 x15 x16 x17 x18 x19 x20) hJ d_Mo_wantNumber_35 hc_Mo f_Mo_247 0 rfl rfl rfl rfl (by decide) (Nat.le_of_ble_eq_true rfl) rfl ?_
    refine z_aload_n hJ d_Mo_wantNumber_38 0 rfl ?_
    refine z_get hJ d_Mo_wantNumber_39 hc_Mo f_Mo_247 0 rfl rfl (by decide) ?_
    refine zb_eq hJ d_Mo_wantNumber_42 (fun c_42 => ?_) (fun c_42 => False.elim (by exact absurd c_42 (by decide)))
    refine z_iload_n hJ d_Mo_wantNumber_49 3 rfl ?_
    exact z_ri hR d_Mo_wantNumber_50 rfl (by rw [w_n, hG]; rfl)
  · skip
    try dsimp only at c_10
    refine z_aload_n hJ d_Mo_wantNumber_13 0 rfl ?_
    refine z_get hJ d_Mo_wantNumber_14 hc_Mo f_Mo_205 0 rfl rfl (by decide) ?_
    refine z_iconst (v := 2) hJ d_Mo_wantNumber_17 (by decide) ?_
    refine z_icmp_ne hJ d_Mo_wantNumber_18 (fun c_18 => ?_) (fun c_18 => ?_)
    · skip
      try dsimp only at c_18
      have hG : (x13 && q_isN T lo hi) = false := by rw [q_isN_m, decide_eq_false c_18, Bool.false_and, Bool.and_false]
      refine z_iconst (v := 0) hJ d_Mo_wantNumber_34 (by decide) ?_
      refine z_put (w' := mV g a x0 x1 127 x3 x4 x5 x6 x7 (q_tks T) (T.2.2.2.1) (T.2.2.2.2.1) (q_tkw T) (q_tkv T) false x14 x15 x16 x17 x18 x19 x20) hJ d_Mo_wantNumber_35 hc_Mo f_Mo_247 0 rfl rfl rfl rfl (by decide) (Nat.le_of_ble_eq_true rfl) rfl ?_
      refine z_aload_n hJ d_Mo_wantNumber_38 0 rfl ?_
      refine z_get hJ d_Mo_wantNumber_39 hc_Mo f_Mo_247 0 rfl rfl (by decide) ?_
      refine zb_eq hJ d_Mo_wantNumber_42 (fun c_42 => ?_) (fun c_42 => False.elim (by exact absurd c_42 (by decide)))
      refine z_iload_n hJ d_Mo_wantNumber_49 3 rfl ?_
      exact z_ri hR d_Mo_wantNumber_50 rfl (by rw [w_n, hG]; rfl)
    · skip
      try dsimp only at c_18
      refine z_iload_n hJ d_Mo_wantNumber_21 3 rfl ?_
      refine z_iload_n hJ d_Mo_wantNumber_22 1 rfl ?_
      refine z_iload_n hJ d_Mo_wantNumber_23 2 rfl ?_
      refine z_callSi hJ m_Mo_in k_Mo_52 zL.nil d_Mo_wantNumber_24 rfl rfl (Nat.le_of_ble_eq_true rfl) ⟨by decide, by decide⟩ ?_
      refine zb_eq hJ d_Mo_wantNumber_27 (fun c_27 => ?_) (fun c_27 => ?_)
      · skip
        try dsimp only at c_27
        have hG : (x13 && q_isN T lo hi) = false := by rw [q_isN_m, c_27, Bool.and_false, Bool.and_false]
        refine z_iconst (v := 0) hJ d_Mo_wantNumber_34 (by decide) ?_
        refine z_put (w' := mV g a x0 x1 127 x3 x4 x5 x6 x7 (q_tks T) (T.2.2.2.1) (T.2.2.2.2.1) (q_tkw T) (q_tkv T) false x14 x15 x16 x17 x18 x19 x20) hJ d_Mo_wantNumber_35 hc_Mo f_Mo_247 0 rfl rfl rfl rfl (by decide) (Nat.le_of_ble_eq_true rfl) rfl ?_
        refine z_aload_n hJ d_Mo_wantNumber_38 0 rfl ?_
        refine z_get hJ d_Mo_wantNumber_39 hc_Mo f_Mo_247 0 rfl rfl (by decide) ?_
        refine zb_eq hJ d_Mo_wantNumber_42 (fun c_42 => ?_) (fun c_42 => False.elim (by exact absurd c_42 (by decide)))
        refine z_iload_n hJ d_Mo_wantNumber_49 3 rfl ?_
        exact z_ri hR d_Mo_wantNumber_50 rfl (by rw [w_n, hG]; rfl)
      · skip
        try dsimp only at c_27
        have hG : (x13 && q_isN T lo hi) = true := by rw [q_isN_m, c_27, c_10, decide_eq_true c_18]; rfl
        refine z_iconst (v := 1) hJ d_Mo_wantNumber_30 (by decide) ?_
        refine z_goto hJ d_Mo_wantNumber_31 ?_
        refine z_put (w' := mV g a x0 x1 127 x3 x4 x5 x6 x7 (q_tks T) (T.2.2.2.1) (T.2.2.2.2.1) (q_tkw T) (q_tkv T) true x14 x15 x16 x17 x18 x19 x20) hJ d_Mo_wantNumber_35 hc_Mo f_Mo_247 0 rfl rfl rfl rfl (by decide) (Nat.le_of_ble_eq_true rfl) rfl ?_
        refine z_aload_n hJ d_Mo_wantNumber_38 0 rfl ?_
        refine z_get hJ d_Mo_wantNumber_39 hc_Mo f_Mo_247 0 rfl rfl (by decide) ?_
        refine zb_eq hJ d_Mo_wantNumber_42 (fun c_42 => False.elim (by exact absurd c_42 (by decide))) (fun c_42 => ?_)
        refine z_aload_n hJ d_Mo_wantNumber_45 0 rfl ?_
        refine z_callVv hJ (m_Mo_advance (T := T) hT) k_Mo_251 zL.id d_Mo_wantNumber_46 hc_Mo 0 rfl rfl rfl (Nat.le_of_ble_eq_true rfl) ⟨by decide, by decide⟩ ?_
        refine z_iload_n hJ d_Mo_wantNumber_49 3 rfl ?_
        exact z_ri hR d_Mo_wantNumber_50 rfl (by rw [w_n, hG]; rfl)
set_option maxRecDepth 100000 in
theorem m_Mo_mayWant {g : Nat → Nat → Nat} {a : Nat → Nat} {x0 : Nat → Int32} {x1 : Nat → Int32} {x3 : Nat → Int32} {x4 : Nat → Int32} {x5 : Nat → Int64} {x6 : Nat → Int32} {x7 : Nat} {x13 : Bool} {x14 : Nat → Int32} {x15 : Nat → Int32} {x16 : Nat → Int64} {x17 : Nat → Int64} {x18 : Nat → Int32} {x19 : Nat → Int32} {x20 : Bool} {T : TS} {i : Nat} {u : Int64} {lo hi o : Int32} (hT : zTk T x6 x7) (hi2 : i < 20) (hu : u = zwd i) : zM g y_Mo_mayWant b_Mo_mayWant 6 (some .int) 4 [.ref (a 0), .long u, .int lo, .int hi, .int o] (mV g a x0 x1 127 x3 x4 x5 x6 x7 (q_tks T) (T.2.2.2.1) (T.2.2.2.2.1) (q_tkw T) (q_tkv T) x13 x14 x15 x16 x17 x18 x19 x20) [.int (w_V x13 T i o)] (mV g a x0 x1 127 x3 x4 x5 x6 x7 (q_tks (w_T x13 T i lo hi)) ((w_T x13 T i lo hi).2.2.2.1) ((w_T x13 T i lo hi).2.2.2.2.1) (q_tkw (w_T x13 T i lo hi)) (q_tkv (w_T x13 T i lo hi)) (w_G x13 T i lo hi x13) x14 x15 x16 x17 x18 x19 x20) := by
  refine zMi (lv := [(0, .ref (a 0)), (1, .long u), (3, .int lo), (4, .int hi), (5, .int o)]) (by decide) (Nat.le_of_ble_eq_true rfl) rfl (fun J hJ hR => ?_)
  refine z_aload_n hJ d_Mo_mayWant_0 0 rfl ?_
  refine z_get hJ d_Mo_mayWant_1 hc_Mo f_Mo_247 0 rfl rfl (by decide) ?_
  refine zb_eq hJ d_Mo_mayWant_4 (fun c_4 => ?_) (fun c_4 => ?_)
  · skip
    try dsimp only at c_4
    have hG : (x13 && q_isW T i) = false := by rw [c_4]; rfl
    refine z_iload hJ d_Mo_mayWant_15 4 rfl ?_
    exact z_ri hR d_Mo_mayWant_17 (by rw [w_V, if_neg (by rw [hG]; decide)]) (by rw [w_T, w_G, if_neg (by rw [hG]; decide), if_neg (by rw [hG]; decide)])
  · skip
    try dsimp only at c_4
    refine z_aload_n hJ d_Mo_mayWant_7 0 rfl ?_
    refine z_lload_n hJ d_Mo_mayWant_8 1 rfl ?_
    refine z_callVi hJ (m_Mo_isWord hT hi2 hu) k_Mo_223 zL.id d_Mo_mayWant_9 hc_Mo 0 rfl rfl rfl (Nat.le_of_ble_eq_true rfl) ⟨by decide, by decide⟩ ?_
    refine zb_ne hJ d_Mo_mayWant_12 (fun c_12 => ?_) (fun c_12 => ?_)
    · skip
      try dsimp only at c_12
      have hG : (x13 && q_isW T i) = true := by rw [c_4, c_12]; rfl
      refine z_aload_n hJ d_Mo_mayWant_18 0 rfl ?_
      refine z_callVv hJ (m_Mo_advance (T := T) hT) k_Mo_251 zL.id d_Mo_mayWant_19 hc_Mo 0 rfl rfl rfl (Nat.le_of_ble_eq_true rfl) ⟨by decide, by decide⟩ ?_
      refine z_aload_n hJ d_Mo_mayWant_22 0 rfl ?_
      refine z_iload_n hJ d_Mo_mayWant_23 2 rfl ?_
      refine z_iload hJ d_Mo_mayWant_24 3 rfl ?_
      refine z_callVi hJ (m_Mo_wantNumber (T := q_adv T) (x13 := x13) hT.adv) k_Mo_254 zL.id d_Mo_mayWant_26 hc_Mo 0 rfl rfl rfl (Nat.le_of_ble_eq_true rfl) ⟨by decide, by decide⟩ ?_
      exact z_ri hR d_Mo_mayWant_29 (by rw [w_V, if_pos hG]) (by rw [w_T, w_G, if_pos hG, if_pos hG, w_n, c_4, Bool.true_and])
    · skip
      try dsimp only at c_12
      have hG : (x13 && q_isW T i) = false := by rw [c_12, Bool.and_false]
      refine z_iload hJ d_Mo_mayWant_15 4 rfl ?_
      exact z_ri hR d_Mo_mayWant_17 (by rw [w_V, if_neg (by rw [hG]; decide)]) (by rw [w_T, w_G, if_neg (by rw [hG]; decide), if_neg (by rw [hG]; decide)])
set_option maxRecDepth 100000 in
theorem m_Mo_wantAfter {g : Nat → Nat → Nat} {a : Nat → Nat} {x0 : Nat → Int32} {x1 : Nat → Int32} {x3 : Nat → Int32} {x4 : Nat → Int32} {x5 : Nat → Int64} {x6 : Nat → Int32} {x7 : Nat} {x13 : Bool} {x14 : Nat → Int32} {x15 : Nat → Int32} {x16 : Nat → Int64} {x17 : Nat → Int64} {x18 : Nat → Int32} {x19 : Nat → Int32} {x20 : Bool} {T : TS} {i : Nat} {u : Int64} {lo hi : Int32} (hT : zTk T x6 x7) (hi2 : i < 20) (hu : u = zwd i) : zM g y_Mo_wantAfter b_Mo_wantAfter 5 (some .int) 4 [.ref (a 0), .long u, .int lo, .int hi] (mV g a x0 x1 127 x3 x4 x5 x6 x7 (q_tks T) (T.2.2.2.1) (T.2.2.2.2.1) (q_tkw T) (q_tkv T) x13 x14 x15 x16 x17 x18 x19 x20) [.int (w_V x13 T i 0)] (mV g a x0 x1 127 x3 x4 x5 x6 x7 (q_tks (w_T x13 T i lo hi)) ((w_T x13 T i lo hi).2.2.2.1) ((w_T x13 T i lo hi).2.2.2.2.1) (q_tkw (w_T x13 T i lo hi)) (q_tkv (w_T x13 T i lo hi)) (w_G x13 T i lo hi false) x14 x15 x16 x17 x18 x19 x20) := by
  refine zMi (lv := [(0, .ref (a 0)), (1, .long u), (3, .int lo), (4, .int hi)]) (by decide) (Nat.le_of_ble_eq_true rfl) rfl (fun J hJ hR => ?_)
  refine z_aload_n hJ d_Mo_wantAfter_0 0 rfl ?_
  refine z_aload_n hJ d_Mo_wantAfter_1 0 rfl ?_
  refine z_get hJ d_Mo_wantAfter_2 hc_Mo f_Mo_247 0 rfl rfl (by decide) ?_
  refine zb_eq hJ d_Mo_wantAfter_5 (fun c_5 => ?_) (fun c_5 => ?_)
  · skip
    try dsimp only at c_5
    have hG : (x13 && q_isW T i) = false := by rw [c_5]; rfl
    refine z_iconst (v := 0) hJ d_Mo_wantAfter_20 (by decide) ?_
    refine z_put (w' := mV g a x0 x1 127 x3 x4 x5 x6 x7 (q_tks T) (T.2.2.2.1) (T.2.2.2.2.1) (q_tkw T) (q_tkv T) false x14 x15 x16 x17 x18 x19 x20) hJ d_Mo_wantAfter_21 hc_Mo f_Mo_247 0 rfl rfl rfl rfl (by decide) (Nat.le_of_ble_eq_true rfl) rfl ?_
    refine z_aload_n hJ d_Mo_wantAfter_24 0 rfl ?_
    refine z_get hJ d_Mo_wantAfter_25 hc_Mo f_Mo_247 0 rfl rfl (by decide) ?_
    refine zb_ne hJ d_Mo_wantAfter_28 (fun c_28 => False.elim (by exact absurd c_28 (by decide))) (fun c_28 => ?_)
    refine z_iconst (v := 0) hJ d_Mo_wantAfter_31 (by decide) ?_
    exact z_ri hR d_Mo_wantAfter_32 (by rw [w_V, if_neg (by rw [hG]; decide)]) (by rw [w_T, w_G, if_neg (by rw [hG]; decide), if_neg (by rw [hG]; decide)])
  · skip
    try dsimp only at c_5
    refine z_aload_n hJ d_Mo_wantAfter_8 0 rfl ?_
    refine z_lload_n hJ d_Mo_wantAfter_9 1 rfl ?_
    refine z_callVi hJ (m_Mo_isWord hT hi2 hu) k_Mo_223 zL.id d_Mo_wantAfter_10 hc_Mo 0 rfl rfl rfl (Nat.le_of_ble_eq_true rfl) ⟨by decide, by decide⟩ ?_
    refine zb_eq hJ d_Mo_wantAfter_13 (fun c_13 => ?_) (fun c_13 => ?_)
    · skip
      try dsimp only at c_13
      have hG : (x13 && q_isW T i) = false := by rw [c_13, Bool.and_false]
      refine z_iconst (v := 0) hJ d_Mo_wantAfter_20 (by decide) ?_
      refine z_put (w' := mV g a x0 x1 127 x3 x4 x5 x6 x7 (q_tks T) (T.2.2.2.1) (T.2.2.2.2.1) (q_tkw T) (q_tkv T) false x14 x15 x16 x17 x18 x19 x20) hJ d_Mo_wantAfter_21 hc_Mo f_Mo_247 0 rfl rfl rfl rfl (by decide) (Nat.le_of_ble_eq_true rfl) rfl ?_
      refine z_aload_n hJ d_Mo_wantAfter_24 0 rfl ?_
      refine z_get hJ d_Mo_wantAfter_25 hc_Mo f_Mo_247 0 rfl rfl (by decide) ?_
      refine zb_ne hJ d_Mo_wantAfter_28 (fun c_28 => False.elim (by exact absurd c_28 (by decide))) (fun c_28 => ?_)
      refine z_iconst (v := 0) hJ d_Mo_wantAfter_31 (by decide) ?_
      exact z_ri hR d_Mo_wantAfter_32 (by rw [w_V, if_neg (by rw [hG]; decide)]) (by rw [w_T, w_G, if_neg (by rw [hG]; decide), if_neg (by rw [hG]; decide)])
    · skip
      try dsimp only at c_13
      have hG : (x13 && q_isW T i) = true := by rw [c_5, c_13]; rfl
      refine z_iconst (v := 1) hJ d_Mo_wantAfter_16 (by decide) ?_
      refine z_goto hJ d_Mo_wantAfter_17 ?_
      refine z_put (w' := mV g a x0 x1 127 x3 x4 x5 x6 x7 (q_tks T) (T.2.2.2.1) (T.2.2.2.2.1) (q_tkw T) (q_tkv T) true x14 x15 x16 x17 x18 x19 x20) hJ d_Mo_wantAfter_21 hc_Mo f_Mo_247 0 rfl rfl rfl rfl (by decide) (Nat.le_of_ble_eq_true rfl) rfl ?_
      refine z_aload_n hJ d_Mo_wantAfter_24 0 rfl ?_
      refine z_get hJ d_Mo_wantAfter_25 hc_Mo f_Mo_247 0 rfl rfl (by decide) ?_
      refine zb_ne hJ d_Mo_wantAfter_28 (fun c_28 => ?_) (fun c_28 => False.elim (by exact absurd c_28 (by decide)))
      refine z_aload_n hJ d_Mo_wantAfter_33 0 rfl ?_
      refine z_callVv hJ (m_Mo_advance (T := T) hT) k_Mo_251 zL.id d_Mo_wantAfter_34 hc_Mo 0 rfl rfl rfl (Nat.le_of_ble_eq_true rfl) ⟨by decide, by decide⟩ ?_
      refine z_aload_n hJ d_Mo_wantAfter_37 0 rfl ?_
      refine z_iload_n hJ d_Mo_wantAfter_38 2 rfl ?_
      refine z_iload hJ d_Mo_wantAfter_39 3 rfl ?_
      refine z_callVi hJ (m_Mo_wantNumber (T := q_adv T) (x13 := true) hT.adv) k_Mo_254 zL.id d_Mo_wantAfter_41 hc_Mo 0 rfl rfl rfl (Nat.le_of_ble_eq_true rfl) ⟨by decide, by decide⟩ ?_
      exact z_ri hR d_Mo_wantAfter_44 (by rw [w_V, if_pos hG]) (by rw [w_T, w_G, if_pos hG, if_pos hG, w_n, Bool.true_and])
