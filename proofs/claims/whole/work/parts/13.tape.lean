theorem zaddm1 (x : Int32) : x + Int32.ofInt (-1) = x - 1 := by
  rw [Int32.sub_eq_add_neg]
  rfl
set_option maxRecDepth 100000 in
theorem m_Tp_empty {g : Nat → Nat → Nat} {b : Nat → Nat} {T : TS}   : zM g y_Tp_empty b_Tp_empty 2 (some .int) 0 [.ref (b 0)] (tW g b T) [.int (nI T.2.1)] (tW g b (T.1, 0, T.2.2.1, T.2.2.2.1, T.2.2.2.2.1, T.2.2.2.2.2)) := by
  refine zMi (lv := [(0, .ref (b 0))]) (by decide) (Nat.le_of_ble_eq_true rfl) rfl (fun J hJ hR => ?_)
  refine z_aload_n hJ d_Tp_empty_0 0 rfl ?_
  refine z_get hJ d_Tp_empty_1 hc_Tp f_Tp_15 0 rfl rfl (by decide) ?_
  refine z_istore_n (lv' := [(0, _), (1, _)]) hJ d_Tp_empty_4 (by decide) rfl ?_
  refine z_aload_n hJ d_Tp_empty_5 0 rfl ?_
  refine z_iconst (v := 0) hJ d_Tp_empty_6 (by decide) ?_
  refine z_put (w' := tW g b (T.1, 0, T.2.2.1, T.2.2.2.1, T.2.2.2.2.1, T.2.2.2.2.2)) hJ d_Tp_empty_7 hc_Tp f_Tp_15 0 rfl rfl rfl rfl (by decide) (Nat.le_of_ble_eq_true rfl) rfl ?_
  refine z_iload_n hJ d_Tp_empty_10 1 rfl ?_
  exact z_ri hR d_Tp_empty_11 rfl rfl
set_option maxRecDepth 100000 in
theorem m_Tp_append {g : Nat → Nat → Nat} {b : Nat → Nat} {T : TS} {x : Int32} {n : Nat} (hz : T.2.1 + n ≤ 120) : zM g y_Tp_append b_Tp_append 4 none 0 [.ref (b 0), .int x, .int (nI n)] (tW g b T) [] (tW g b (q_app T.1 T.2.1 x n, T.2.1 + n, T.2.2.1, T.2.2.2.1, T.2.2.2.2.1, T.2.2.2.2.2)) := by
  refine zMv (lv := [(0, .ref (b 0)), (1, .int x), (2, .int (nI n))]) (by decide) (Nat.le_of_ble_eq_true rfl) rfl (fun J hJ hR => ?_)
  refine z_iload_n hJ d_Tp_append_0 2 rfl ?_
  refine z_iconst (v := 1) hJ d_Tp_append_1 (by decide) ?_
  refine z_isub hJ d_Tp_append_2 ?_
  refine z_istore_n (lv' := [(0, _), (1, _), (2, _), (3, _)]) hJ d_Tp_append_3 (by decide) rfl ?_
  have L4 : ∀ k : Nat, ∀ (y : Int32) (f : Nat → Int32) (z : Nat), y = nI k - 1 → z + k = T.2.1 + n → q_app T.1 T.2.1 x n = q_app f z x k → J (tW g b (f, z, T.2.2.1, T.2.2.2.1, T.2.2.2.2.1, T.2.2.2.2.2)) 4 [(0, .ref (b 0)), (1, .int x), (2, .int (nI n)), (3, .int y)] [] := by
    refine zloopd (fun k ih_k => ?_)
    intro y f z hy hzk hq
    refine z_iload_n hJ d_Tp_append_4 3 rfl ?_
    refine z_if_lt hJ d_Tp_append_5 (fun c_5 => ?_) (fun c_5 => ?_)
    · skip
      try dsimp only at c_5
      obtain rfl : k = 0 := by
        cases k with
        | zero => rfl
        | succ k' =>
          rw [hy, zsub1 (by omega)] at c_5
          exact absurd c_5 (nI_pos (by omega))
      exact z_rv hR d_Tp_append_52 (by rw [show z = T.2.1 + n by omega, hq]; rfl)
    · skip
      try dsimp only at c_5
      obtain ⟨k', rfl⟩ : ∃ k', k = k' + 1 := by
        cases k with
        | zero => exact absurd (by rw [hy]; decide) c_5
        | succ k' => exact ⟨k', rfl⟩
      obtain rfl : y = nI k' := by
        rw [hy, zsub1 (by omega)]; rfl
      refine z_aload_n hJ d_Tp_append_8 0 rfl ?_
      refine z_get hJ d_Tp_append_9 hc_Tp f_Tp_15 0 rfl rfl (by decide) ?_
      refine z_bipush (v := 120) hJ d_Tp_append_12 (by decide) ?_
      refine z_icmp_ge hJ d_Tp_append_14 (fun c_14 => ?_) (fun c_14 => ?_)
      · skip
        try dsimp only at c_14
        have h_14 : 120 ≤ z := by
          have e := nI_leI (a := 120) (b := z) (by omega) (by omega)
          exact e.mp c_14
        exact absurd h_14 (by omega)
      · skip
        try dsimp only at c_14
        have h_14 : ¬ (120 ≤ z) := by
          have e := nI_leI (a := 120) (b := z) (by omega) (by omega)
          exact fun q => c_14 (e.mpr q)
        refine z_aload_n hJ d_Tp_append_17 0 rfl ?_
        refine z_get hJ d_Tp_append_18 hc_Tp f_Tp_9 0 rfl rfl (by decide) ?_
        refine z_aload_n hJ d_Tp_append_21 0 rfl ?_
        refine z_get hJ d_Tp_append_22 hc_Tp f_Tp_15 0 rfl rfl (by decide) ?_
        refine z_iload_n hJ d_Tp_append_25 1 rfl ?_
        refine z_bipush (v := 8) hJ d_Tp_append_26 (by decide) ?_
        refine z_iload_n hJ d_Tp_append_28 3 rfl ?_
        refine z_imul hJ d_Tp_append_29 ?_
        refine z_iushr hJ d_Tp_append_30 ?_
        refine z_sipush (v := 255) hJ d_Tp_append_31 (by decide) ?_
        refine z_iand hJ d_Tp_append_34 ?_
        refine z_n (fun x_1 e_1 => ?_)
        refine z_iast (w' := tW g b (upd f (z) x_1, z, T.2.2.1, T.2.2.2.1, T.2.2.2.2.1, T.2.2.2.2.2)) hJ d_Tp_append_35 1 (z) rfl rfl (by omega) (by decide) rfl ?_
        refine z_aload_n hJ d_Tp_append_36 0 rfl ?_
        refine z_dup hJ d_Tp_append_37 rfl ?_
        refine z_get hJ d_Tp_append_38 hc_Tp f_Tp_15 0 rfl rfl (by decide) ?_
        refine z_iconst (v := 1) hJ d_Tp_append_41 (by decide) ?_
        refine z_iadd hJ d_Tp_append_42 ?_
        refine z_c (y := nI (z + 1)) (nI_1 _) ?_
        refine z_put (w' := tW g b (upd f (z) x_1, z + 1, T.2.2.1, T.2.2.2.1, T.2.2.2.2.1, T.2.2.2.2.2)) hJ d_Tp_append_43 hc_Tp f_Tp_15 0 rfl rfl rfl rfl (by decide) (Nat.le_of_ble_eq_true rfl) rfl ?_
        refine z_iinc (v := _) (lv' := [(0, _), (1, _), (2, _), (3, _)]) hJ d_Tp_append_46 3 rfl rfl (by decide) rfl ?_
        refine z_goto hJ d_Tp_append_49 ?_
        subst e_1
        exact ih_k k' (by omega) _ _ (z + 1) (zaddm1 _) (by omega) hq
  exact L4 n _ T.1 T.2.1 rfl rfl rfl
set_option maxRecDepth 100000 in
theorem m_Tp_advance {g : Nat → Nat → Nat} {b : Nat → Nat} {T : TS}  (hz : T.2.1 ≤ 120) (he : T.2.2.2.2.1 ≤ T.2.1) : zM g y_Tp_advance b_Tp_advance 1 none 1 [.ref (b 0)] (tW g b T) [] (tW g b (q_adv T)) := by
  have hs : q_st T ≤ T.2.1 := q_run_le he
  refine zMv (lv := [(0, .ref (b 0))]) (by decide) (Nat.le_of_ble_eq_true rfl) rfl (fun J hJ hR => ?_)
  have A46 : J (tW g b (T.1, T.2.1, T.2.2.1, q_st T, T.2.2.2.2.1, T.2.2.2.2.2)) 46 [(0, .ref (b 0))] [] := by
    refine z_aload_n hJ d_Tp_advance_46 0 rfl ?_
    refine z_aload_n hJ d_Tp_advance_47 0 rfl ?_
    refine z_get hJ d_Tp_advance_48 hc_Tp f_Tp_22 0 rfl rfl (by decide) ?_
    refine z_put (w' := tW g b (T.1, T.2.1, T.2.2.1, q_st T, (q_st T), T.2.2.2.2.2)) hJ d_Tp_advance_51 hc_Tp f_Tp_25 0 rfl rfl rfl rfl (by decide) (Nat.le_of_ble_eq_true rfl) rfl ?_
    refine z_aload_n hJ d_Tp_advance_54 0 rfl ?_
    refine z_iconst (v := 0) hJ d_Tp_advance_55 (by decide) ?_
    refine z_put (w' := tW g b (T.1, T.2.1, T.2.2.1, q_st T, (q_st T), (0))) hJ d_Tp_advance_56 hc_Tp f_Tp_28 0 rfl rfl rfl rfl (by decide) (Nat.le_of_ble_eq_true rfl) rfl ?_
    refine z_aload_n hJ d_Tp_advance_59 0 rfl ?_
    refine z_get hJ d_Tp_advance_60 hc_Tp f_Tp_22 0 rfl rfl (by decide) ?_
    refine z_aload_n hJ d_Tp_advance_63 0 rfl ?_
    refine z_get hJ d_Tp_advance_64 hc_Tp f_Tp_15 0 rfl rfl (by decide) ?_
    refine z_icmp_lt hJ d_Tp_advance_67 (fun c_67 => ?_) (fun c_67 => ?_)
    · skip
      try dsimp only at c_67
      have h_67 : (q_st T) < T.2.1 := by
        have e := nI_ltI (a := (q_st T)) (b := T.2.1) (by omega) (by omega)
        exact e.mp c_67
      refine z_aload_n hJ d_Tp_advance_78 0 rfl ?_
      refine z_get hJ d_Tp_advance_79 hc_Tp f_Tp_9 0 rfl rfl (by decide) ?_
      refine z_aload_n hJ d_Tp_advance_82 0 rfl ?_
      refine z_get hJ d_Tp_advance_83 hc_Tp f_Tp_22 0 rfl rfl (by decide) ?_
      refine z_iald hJ d_Tp_advance_86 1 ((q_st T)) rfl rfl (by omega) (by decide) ?_
      refine z_callSi hJ m_Tp_isLetter k_Tp_155 zL.nil d_Tp_advance_87 rfl rfl (Nat.le_of_ble_eq_true rfl) ⟨by decide, by decide⟩ ?_
      refine zb_eq hJ d_Tp_advance_90 (fun c_90 => ?_) (fun c_90 => ?_)
      · skip
        try dsimp only at c_90
        refine z_aload_n hJ d_Tp_advance_137 0 rfl ?_
        refine z_get hJ d_Tp_advance_138 hc_Tp f_Tp_9 0 rfl rfl (by decide) ?_
        refine z_aload_n hJ d_Tp_advance_141 0 rfl ?_
        refine z_get hJ d_Tp_advance_142 hc_Tp f_Tp_22 0 rfl rfl (by decide) ?_
        refine z_iald hJ d_Tp_advance_145 1 ((q_st T)) rfl rfl (by omega) (by decide) ?_
        refine z_callSi hJ m_Tp_isDigit k_Tp_159 zL.nil d_Tp_advance_146 rfl rfl (Nat.le_of_ble_eq_true rfl) ⟨by decide, by decide⟩ ?_
        refine zb_eq hJ d_Tp_advance_149 (fun c_149 => ?_) (fun c_149 => ?_)
        · skip
          try dsimp only at c_149
          refine z_aload_n hJ d_Tp_advance_226 0 rfl ?_
          refine z_aload_n hJ d_Tp_advance_227 0 rfl ?_
          refine z_get hJ d_Tp_advance_228 hc_Tp f_Tp_9 0 rfl rfl (by decide) ?_
          refine z_aload_n hJ d_Tp_advance_231 0 rfl ?_
          refine z_get hJ d_Tp_advance_232 hc_Tp f_Tp_22 0 rfl rfl (by decide) ?_
          refine z_iald hJ d_Tp_advance_235 1 ((q_st T)) rfl rfl (by omega) (by decide) ?_
          refine z_bipush (v := 59) hJ d_Tp_advance_236 (by decide) ?_
          refine z_icmp_ne hJ d_Tp_advance_238 (fun c_238 => ?_) (fun c_238 => ?_)
          · skip
            try dsimp only at c_238
            refine z_iconst (v := 4) hJ d_Tp_advance_245 (by decide) ?_
            refine z_put (w' := tW g b (T.1, T.2.1, 4, q_st T, (q_st T), (0))) hJ d_Tp_advance_246 hc_Tp f_Tp_19 0 rfl rfl rfl rfl (by decide) (Nat.le_of_ble_eq_true rfl) rfl ?_
            refine z_aload_n hJ d_Tp_advance_249 0 rfl ?_
            refine z_dup hJ d_Tp_advance_250 rfl ?_
            refine z_get hJ d_Tp_advance_251 hc_Tp f_Tp_25 0 rfl rfl (by decide) ?_
            refine z_iconst (v := 1) hJ d_Tp_advance_254 (by decide) ?_
            refine z_iadd hJ d_Tp_advance_255 ?_
            refine z_c (y := nI (q_st T + 1)) (nI_1 _) ?_
            refine z_put (w' := tW g b (T.1, T.2.1, 4, q_st T, q_st T + 1, (0))) hJ d_Tp_advance_256 hc_Tp f_Tp_25 0 rfl rfl rfl rfl (by decide) (Nat.le_of_ble_eq_true rfl) rfl ?_
            exact z_rv hR d_Tp_advance_259 (by simp [q_adv, show ¬ T.2.1 ≤ q_st T by omega, q_let, q_dig, c_67, c_90, c_149, c_238])
          · skip
            try dsimp only at c_238
            refine z_iconst (v := 3) hJ d_Tp_advance_241 (by decide) ?_
            refine z_goto hJ d_Tp_advance_242 ?_
            refine z_put (w' := tW g b (T.1, T.2.1, 3, q_st T, (q_st T), (0))) hJ d_Tp_advance_246 hc_Tp f_Tp_19 0 rfl rfl rfl rfl (by decide) (Nat.le_of_ble_eq_true rfl) rfl ?_
            refine z_aload_n hJ d_Tp_advance_249 0 rfl ?_
            refine z_dup hJ d_Tp_advance_250 rfl ?_
            refine z_get hJ d_Tp_advance_251 hc_Tp f_Tp_25 0 rfl rfl (by decide) ?_
            refine z_iconst (v := 1) hJ d_Tp_advance_254 (by decide) ?_
            refine z_iadd hJ d_Tp_advance_255 ?_
            refine z_c (y := nI (q_st T + 1)) (nI_1 _) ?_
            refine z_put (w' := tW g b (T.1, T.2.1, 3, q_st T, q_st T + 1, (0))) hJ d_Tp_advance_256 hc_Tp f_Tp_25 0 rfl rfl rfl rfl (by decide) (Nat.le_of_ble_eq_true rfl) rfl ?_
            exact z_rv hR d_Tp_advance_259 (by simp [q_adv, show ¬ T.2.1 ≤ q_st T by omega, q_let, q_dig, c_67, c_90, c_149, c_238, show q_in 59 97 122 = false by decide, show q_in 59 48 57 = false by decide])
        · skip
          try dsimp only at c_149
          refine z_aload_n hJ d_Tp_advance_152 0 rfl ?_
          refine z_iconst (v := 2) hJ d_Tp_advance_153 (by decide) ?_
          refine z_put (w' := tW g b (T.1, T.2.1, 2, q_st T, (q_st T), (0))) hJ d_Tp_advance_154 hc_Tp f_Tp_19 0 rfl rfl rfl rfl (by decide) (Nat.le_of_ble_eq_true rfl) rfl ?_
          have L157 : ∀ j : Nat, j ≤ T.2.1 → q_st T ≤ j → q_run (q_dig T.1) T.2.1 (q_st T) = q_run (q_dig T.1) T.2.1 j → J (tW g b (T.1, T.2.1, 2, q_st T, j, q_num T.1 (q_st T) (j - q_st T))) 157 [(0, .ref (b 0))] [] := by
            refine zloop (T.2.1) (fun j hjN ih => ?_)
            intro hsj hq
            refine z_aload_n hJ d_Tp_advance_157 0 rfl ?_
            refine z_get hJ d_Tp_advance_158 hc_Tp f_Tp_25 0 rfl rfl (by decide) ?_
            refine z_aload_n hJ d_Tp_advance_161 0 rfl ?_
            refine z_get hJ d_Tp_advance_162 hc_Tp f_Tp_15 0 rfl rfl (by decide) ?_
            refine z_icmp_ge hJ d_Tp_advance_165 (fun c_165 => ?_) (fun c_165 => ?_)
            · skip
              try dsimp only at c_165
              have h_165 : T.2.1 ≤ j := by
                have e := nI_leI (a := T.2.1) (b := j) (by omega) (by omega)
                exact e.mp c_165
              obtain rfl : j = q_run (q_dig T.1) T.2.1 (q_st T) := (hq.trans (q_run_stop (fun q => by omega))).symm
              exact z_rv hR d_Tp_advance_259 (by simp [q_adv, show ¬ T.2.1 ≤ q_st T by omega, q_let, q_dig, c_67, c_90, c_149, c_165])
            · skip
              try dsimp only at c_165
              have h_165 : ¬ (T.2.1 ≤ j) := by
                have e := nI_leI (a := T.2.1) (b := j) (by omega) (by omega)
                exact fun q => c_165 (e.mpr q)
              refine z_aload_n hJ d_Tp_advance_168 0 rfl ?_
              refine z_get hJ d_Tp_advance_169 hc_Tp f_Tp_9 0 rfl rfl (by decide) ?_
              refine z_aload_n hJ d_Tp_advance_172 0 rfl ?_
              refine z_get hJ d_Tp_advance_173 hc_Tp f_Tp_25 0 rfl rfl (by decide) ?_
              refine z_iald hJ d_Tp_advance_176 1 (j) rfl rfl (by omega) (by decide) ?_
              refine z_callSi hJ m_Tp_isDigit k_Tp_159 zL.nil d_Tp_advance_177 rfl rfl (Nat.le_of_ble_eq_true rfl) ⟨by decide, by decide⟩ ?_
              refine zb_eq hJ d_Tp_advance_180 (fun c_180 => ?_) (fun c_180 => ?_)
              · skip
                try dsimp only at c_180
                obtain rfl : j = q_run (q_dig T.1) T.2.1 (q_st T) := (hq.trans (q_run_stop (fun q => by simp [q_dig, c_180] at q))).symm
                exact z_rv hR d_Tp_advance_259 (by simp [q_adv, show ¬ T.2.1 ≤ q_st T by omega, q_let, q_dig, c_67, c_90, c_149, c_165, c_180])
              · skip
                try dsimp only at c_180
                refine z_aload_n hJ d_Tp_advance_183 0 rfl ?_
                refine z_sipush (v := 1000) hJ d_Tp_advance_184 (by decide) ?_
                refine z_aload_n hJ d_Tp_advance_187 0 rfl ?_
                refine z_get hJ d_Tp_advance_188 hc_Tp f_Tp_28 0 rfl rfl (by decide) ?_
                refine z_bipush (v := 10) hJ d_Tp_advance_191 (by decide) ?_
                refine z_imul hJ d_Tp_advance_193 ?_
                refine z_aload_n hJ d_Tp_advance_194 0 rfl ?_
                refine z_get hJ d_Tp_advance_195 hc_Tp f_Tp_9 0 rfl rfl (by decide) ?_
                refine z_aload_n hJ d_Tp_advance_198 0 rfl ?_
                refine z_get hJ d_Tp_advance_199 hc_Tp f_Tp_25 0 rfl rfl (by decide) ?_
                refine z_iald hJ d_Tp_advance_202 1 (j) rfl rfl (by omega) (by decide) ?_
                refine z_iadd hJ d_Tp_advance_203 ?_
                refine z_bipush (v := 48) hJ d_Tp_advance_204 (by decide) ?_
                refine z_isub hJ d_Tp_advance_206 ?_
                refine z_mmin hJ d_Tp_advance_207 k_Tp_162 (Nat.le_of_ble_eq_true rfl) ⟨by decide, by decide⟩ ?_
                refine z_c (y := q_min _ _) rfl ?_
                refine z_n (fun x_1 e_1 => ?_)
                refine z_put (w' := tW g b (T.1, T.2.1, 2, q_st T, j, x_1)) hJ d_Tp_advance_210 hc_Tp f_Tp_28 0 rfl rfl rfl rfl (by decide) (Nat.le_of_ble_eq_true rfl) rfl ?_
                refine z_aload_n hJ d_Tp_advance_213 0 rfl ?_
                refine z_dup hJ d_Tp_advance_214 rfl ?_
                refine z_get hJ d_Tp_advance_215 hc_Tp f_Tp_25 0 rfl rfl (by decide) ?_
                refine z_iconst (v := 1) hJ d_Tp_advance_218 (by decide) ?_
                refine z_iadd hJ d_Tp_advance_219 ?_
                refine z_c (y := nI (j + 1)) (nI_1 _) ?_
                refine z_put (w' := tW g b (T.1, T.2.1, 2, q_st T, j + 1, x_1)) hJ d_Tp_advance_220 hc_Tp f_Tp_25 0 rfl rfl rfl rfl (by decide) (Nat.le_of_ble_eq_true rfl) rfl ?_
                refine z_goto hJ d_Tp_advance_223 ?_
                subst e_1
                have e := ih (by omega) (by omega) (hq.trans (q_run_go (by omega) (by simp [q_dig, c_180])))
                rw [show j + 1 - q_st T = (j - q_st T) + 1 by omega, q_num, show q_st T + (j - q_st T) = j by omega] at e
                exact e
          have e := L157 _ hs (Nat.le_refl _) rfl
          rw [Nat.sub_self] at e
          exact e
      · skip
        try dsimp only at c_90
        refine z_aload_n hJ d_Tp_advance_93 0 rfl ?_
        refine z_iconst (v := 1) hJ d_Tp_advance_94 (by decide) ?_
        refine z_put (w' := tW g b (T.1, T.2.1, 1, q_st T, (q_st T), (0))) hJ d_Tp_advance_95 hc_Tp f_Tp_19 0 rfl rfl rfl rfl (by decide) (Nat.le_of_ble_eq_true rfl) rfl ?_
        have L98 : ∀ j : Nat, j ≤ T.2.1 → q_run (q_let T.1) T.2.1 (q_st T) = q_run (q_let T.1) T.2.1 j → J (tW g b (T.1, T.2.1, 1, q_st T, j, (0))) 98 [(0, .ref (b 0))] [] := by
          refine zloop (T.2.1) (fun j hjN ih => ?_)
          intro hq
          refine z_aload_n hJ d_Tp_advance_98 0 rfl ?_
          refine z_get hJ d_Tp_advance_99 hc_Tp f_Tp_25 0 rfl rfl (by decide) ?_
          refine z_aload_n hJ d_Tp_advance_102 0 rfl ?_
          refine z_get hJ d_Tp_advance_103 hc_Tp f_Tp_15 0 rfl rfl (by decide) ?_
          refine z_icmp_ge hJ d_Tp_advance_106 (fun c_106 => ?_) (fun c_106 => ?_)
          · skip
            try dsimp only at c_106
            have h_106 : T.2.1 ≤ j := by
              have e := nI_leI (a := T.2.1) (b := j) (by omega) (by omega)
              exact e.mp c_106
            obtain rfl : j = q_run (q_let T.1) T.2.1 (q_st T) := (hq.trans (q_run_stop (fun q => by omega))).symm
            exact z_rv hR d_Tp_advance_259 (by simp [q_adv, show ¬ T.2.1 ≤ q_st T by omega, q_let, q_dig, c_67, c_90, c_106])
          · skip
            try dsimp only at c_106
            have h_106 : ¬ (T.2.1 ≤ j) := by
              have e := nI_leI (a := T.2.1) (b := j) (by omega) (by omega)
              exact fun q => c_106 (e.mpr q)
            refine z_aload_n hJ d_Tp_advance_109 0 rfl ?_
            refine z_get hJ d_Tp_advance_110 hc_Tp f_Tp_9 0 rfl rfl (by decide) ?_
            refine z_aload_n hJ d_Tp_advance_113 0 rfl ?_
            refine z_get hJ d_Tp_advance_114 hc_Tp f_Tp_25 0 rfl rfl (by decide) ?_
            refine z_iald hJ d_Tp_advance_117 1 (j) rfl rfl (by omega) (by decide) ?_
            refine z_callSi hJ m_Tp_isLetter k_Tp_155 zL.nil d_Tp_advance_118 rfl rfl (Nat.le_of_ble_eq_true rfl) ⟨by decide, by decide⟩ ?_
            refine zb_eq hJ d_Tp_advance_121 (fun c_121 => ?_) (fun c_121 => ?_)
            · skip
              try dsimp only at c_121
              obtain rfl : j = q_run (q_let T.1) T.2.1 (q_st T) := (hq.trans (q_run_stop (fun q => by simp [q_let, c_121] at q))).symm
              exact z_rv hR d_Tp_advance_259 (by simp [q_adv, show ¬ T.2.1 ≤ q_st T by omega, q_let, q_dig, c_67, c_90, c_106, c_121])
            · skip
              try dsimp only at c_121
              refine z_aload_n hJ d_Tp_advance_124 0 rfl ?_
              refine z_dup hJ d_Tp_advance_125 rfl ?_
              refine z_get hJ d_Tp_advance_126 hc_Tp f_Tp_25 0 rfl rfl (by decide) ?_
              refine z_iconst (v := 1) hJ d_Tp_advance_129 (by decide) ?_
              refine z_iadd hJ d_Tp_advance_130 ?_
              refine z_c (y := nI (j + 1)) (nI_1 _) ?_
              refine z_put (w' := tW g b (T.1, T.2.1, 1, q_st T, j + 1, (0))) hJ d_Tp_advance_131 hc_Tp f_Tp_25 0 rfl rfl rfl rfl (by decide) (Nat.le_of_ble_eq_true rfl) rfl ?_
              refine z_goto hJ d_Tp_advance_134 ?_
              exact ih (by omega) (hq.trans (q_run_go (by omega) (by simp [q_let, c_121])))
        exact L98 _ hs rfl
    · skip
      try dsimp only at c_67
      have h_67 : ¬ ((q_st T) < T.2.1) := by
        have e := nI_ltI (a := (q_st T)) (b := T.2.1) (by omega) (by omega)
        exact fun q => c_67 (e.mpr q)
      refine z_aload_n hJ d_Tp_advance_70 0 rfl ?_
      refine z_iconst (v := 0) hJ d_Tp_advance_71 (by decide) ?_
      refine z_put (w' := tW g b (T.1, T.2.1, 0, q_st T, (q_st T), (0))) hJ d_Tp_advance_72 hc_Tp f_Tp_19 0 rfl rfl rfl rfl (by decide) (Nat.le_of_ble_eq_true rfl) rfl ?_
      refine z_goto hJ d_Tp_advance_75 ?_
      exact z_rv hR d_Tp_advance_259 (by simp [q_adv, show T.2.1 ≤ q_st T by omega])
  refine z_aload_n hJ d_Tp_advance_0 0 rfl ?_
  refine z_aload_n hJ d_Tp_advance_1 0 rfl ?_
  refine z_get hJ d_Tp_advance_2 hc_Tp f_Tp_25 0 rfl rfl (by decide) ?_
  refine z_put (w' := tW g b (T.1, T.2.1, T.2.2.1, T.2.2.2.2.1, T.2.2.2.2.1, T.2.2.2.2.2)) hJ d_Tp_advance_5 hc_Tp f_Tp_22 0 rfl rfl rfl rfl (by decide) (Nat.le_of_ble_eq_true rfl) rfl ?_
  have L8 : ∀ j : Nat, j ≤ T.2.1 → q_st T = q_run (q_blank T.1) T.2.1 j → J (tW g b (T.1, T.2.1, T.2.2.1, j, T.2.2.2.2.1, T.2.2.2.2.2)) 8 [(0, .ref (b 0))] [] := by
    refine zloop (T.2.1) (fun j hjN ih => ?_)
    intro hq
    refine z_aload_n hJ d_Tp_advance_8 0 rfl ?_
    refine z_get hJ d_Tp_advance_9 hc_Tp f_Tp_22 0 rfl rfl (by decide) ?_
    refine z_aload_n hJ d_Tp_advance_12 0 rfl ?_
    refine z_get hJ d_Tp_advance_13 hc_Tp f_Tp_15 0 rfl rfl (by decide) ?_
    refine z_icmp_ge hJ d_Tp_advance_16 (fun c_16 => ?_) (fun c_16 => ?_)
    · skip
      try dsimp only at c_16
      have h_16 : T.2.1 ≤ j := by
        have e := nI_leI (a := T.2.1) (b := j) (by omega) (by omega)
        exact e.mp c_16
      obtain rfl : j = q_st T := (hq.trans (q_run_stop (fun q => by omega))).symm
      exact A46
    · skip
      try dsimp only at c_16
      have h_16 : ¬ (T.2.1 ≤ j) := by
        have e := nI_leI (a := T.2.1) (b := j) (by omega) (by omega)
        exact fun q => c_16 (e.mpr q)
      refine z_aload_n hJ d_Tp_advance_19 0 rfl ?_
      refine z_get hJ d_Tp_advance_20 hc_Tp f_Tp_9 0 rfl rfl (by decide) ?_
      refine z_aload_n hJ d_Tp_advance_23 0 rfl ?_
      refine z_get hJ d_Tp_advance_24 hc_Tp f_Tp_22 0 rfl rfl (by decide) ?_
      refine z_iald hJ d_Tp_advance_27 1 (j) rfl rfl (by omega) (by decide) ?_
      refine z_bipush (v := 32) hJ d_Tp_advance_28 (by decide) ?_
      refine z_icmp_ne hJ d_Tp_advance_30 (fun c_30 => ?_) (fun c_30 => ?_)
      · skip
        try dsimp only at c_30
        obtain rfl : j = q_st T := (hq.trans (q_run_stop (fun q => by simp [q_blank, c_30] at q))).symm
        exact A46
      · skip
        try dsimp only at c_30
        refine z_aload_n hJ d_Tp_advance_33 0 rfl ?_
        refine z_dup hJ d_Tp_advance_34 rfl ?_
        refine z_get hJ d_Tp_advance_35 hc_Tp f_Tp_22 0 rfl rfl (by decide) ?_
        refine z_iconst (v := 1) hJ d_Tp_advance_38 (by decide) ?_
        refine z_iadd hJ d_Tp_advance_39 ?_
        refine z_c (y := nI (j + 1)) (nI_1 _) ?_
        refine z_put (w' := tW g b (T.1, T.2.1, T.2.2.1, j + 1, T.2.2.2.2.1, T.2.2.2.2.2)) hJ d_Tp_advance_40 hc_Tp f_Tp_22 0 rfl rfl rfl rfl (by decide) (Nat.le_of_ble_eq_true rfl) rfl ?_
        refine z_goto hJ d_Tp_advance_43 ?_
        exact ih (by omega) (hq.trans (q_run_go (by omega) (by simp [q_blank, c_30])))
  exact L8 _ he rfl
set_option maxRecDepth 100000 in
theorem m_Tp_isWord {g : Nat → Nat → Nat} {b : Nat → Nat} {T : TS} {i : Nat} (hz : T.2.1 ≤ 120) (he : T.2.2.2.2.1 ≤ T.2.1) (hse : T.2.2.2.1 ≤ T.2.2.2.2.1) (hk : T.2.2.1 ≤ 4) (hi : i < 20) : zM g y_Tp_isWord b_Tp_isWord 3 (some .boolean) 4 [.ref (b 0), .ref (g 1 i)] (tW g b T) [.int (zB (q_isW T i))] (tW g b T) := by
  have hl := zlen_lt hi
  refine zMz (lv := [(0, .ref (b 0)), (1, .ref (g 1 i))]) (by decide) (Nat.le_of_ble_eq_true rfl) rfl (fun J hJ hR => ?_)
  refine z_aload_n hJ d_Tp_isWord_0 0 rfl ?_
  refine z_get hJ d_Tp_isWord_1 hc_Tp f_Tp_19 0 rfl rfl (by decide) ?_
  refine z_iconst (v := 1) hJ d_Tp_isWord_4 (by decide) ?_
  refine z_icmp_ne hJ d_Tp_isWord_5 (fun c_5 => ?_) (fun c_5 => ?_)
  · skip
    have h_5 : ¬ (T.2.2.1 = 1) := by
      have e := nI_eq (a := T.2.2.1) (b := 1) (by omega) (by omega)
      exact fun q => c_5 (e.mpr q)
    refine z_iconst (v := 0) hJ d_Tp_isWord_24 (by decide) ?_
    exact z_ri hR d_Tp_isWord_25 (by simp [q_isW, h_5]; try rfl) rfl
  · skip
    have h_5 : T.2.2.1 = 1 := by
      have e := nI_eq (a := T.2.2.1) (b := 1) (by omega) (by omega)
      exact e.mp c_5
    refine z_aload_n hJ d_Tp_isWord_8 0 rfl ?_
    refine z_get hJ d_Tp_isWord_9 hc_Tp f_Tp_25 0 rfl rfl (by decide) ?_
    refine z_aload_n hJ d_Tp_isWord_12 0 rfl ?_
    refine z_get hJ d_Tp_isWord_13 hc_Tp f_Tp_22 0 rfl rfl (by decide) ?_
    refine z_isub hJ d_Tp_isWord_16 ?_
    refine z_c (y := nI (T.2.2.2.2.1 - T.2.2.2.1)) (pk_sub hse) ?_
    refine z_aload_n hJ d_Tp_isWord_17 1 rfl ?_
    refine z_callTi hJ (m_St_length hi) k_Tp_146 rfl hi zL.nil d_Tp_isWord_18 rfl rfl (Nat.le_of_ble_eq_true rfl) ⟨by decide, by decide⟩ ?_
    refine z_icmp_eq hJ d_Tp_isWord_21 (fun c_21 => ?_) (fun c_21 => ?_)
    · skip
      have h_21 : (T.2.2.2.2.1 - T.2.2.2.1) = (zlen.getD i 0) := by
        have e := nI_eq (a := (T.2.2.2.2.1 - T.2.2.2.1)) (b := (zlen.getD i 0)) (by omega) (by omega)
        exact e.mp c_21
      refine z_iconst (v := 0) hJ d_Tp_isWord_26 (by decide) ?_
      refine z_istore_n (lv' := [(0, _), (1, _), (2, _)]) hJ d_Tp_isWord_27 (by decide) rfl ?_
      have L28 : ∀ j : Nat, j ≤ zlen.getD i 0 → (∀ k, k < j → T.1 (T.2.2.2.1 + k) = zch i k) → J (tW g b T) 28 [(0, .ref (b 0)), (1, .ref (g 1 i)), (2, .int (nI j))] [] := by
        refine zloop (zlen.getD i 0) (fun j hjN ih => ?_)
        intro hq
        refine z_iload_n hJ d_Tp_isWord_28 2 rfl ?_
        refine z_aload_n hJ d_Tp_isWord_29 1 rfl ?_
        refine z_callTi hJ (m_St_length hi) k_Tp_146 rfl hi zL.nil d_Tp_isWord_30 rfl rfl (Nat.le_of_ble_eq_true rfl) ⟨by decide, by decide⟩ ?_
        refine z_icmp_ge hJ d_Tp_isWord_33 (fun c_33 => ?_) (fun c_33 => ?_)
        · skip
          have h_33 : (zlen.getD i 0) ≤ j := by
            have e := nI_leI (a := (zlen.getD i 0)) (b := j) (by omega) (by omega)
            exact e.mp c_33
          refine z_iconst (v := 1) hJ d_Tp_isWord_63 (by decide) ?_
          exact z_ri hR d_Tp_isWord_64 (by
              have h1 := q_allb_t (f := fun k => decide (T.1 (T.2.2.2.1 + k) = zch i k)) (n := zlen.getD i 0) (fun k hk => by simp [hq k (by omega)])
              unfold q_isW; rw [h1, decide_eq_true h_5, decide_eq_true h_21]; rfl) rfl
        · skip
          have h_33 : ¬ ((zlen.getD i 0) ≤ j) := by
            have e := nI_leI (a := (zlen.getD i 0)) (b := j) (by omega) (by omega)
            exact fun q => c_33 (e.mpr q)
          refine z_aload_n hJ d_Tp_isWord_36 0 rfl ?_
          refine z_get hJ d_Tp_isWord_37 hc_Tp f_Tp_9 0 rfl rfl (by decide) ?_
          refine z_aload_n hJ d_Tp_isWord_40 0 rfl ?_
          refine z_get hJ d_Tp_isWord_41 hc_Tp f_Tp_22 0 rfl rfl (by decide) ?_
          refine z_iload_n hJ d_Tp_isWord_44 2 rfl ?_
          refine z_iadd hJ d_Tp_isWord_45 ?_
          refine z_c (y := nI (T.2.2.2.1 + j)) (nI_add _ _) ?_
          refine z_iald hJ d_Tp_isWord_46 1 ((T.2.2.2.1 + j)) rfl rfl (by omega) (by decide) ?_
          refine z_aload_n hJ d_Tp_isWord_47 1 rfl ?_
          refine z_iload_n hJ d_Tp_isWord_48 2 rfl ?_
          refine z_callTi hJ (m_St_charAt hi (by omega)) k_Tp_151 rfl hi zL.nil d_Tp_isWord_49 rfl rfl (Nat.le_of_ble_eq_true rfl) ⟨by decide, by decide⟩ ?_
          refine z_icmp_eq hJ d_Tp_isWord_52 (fun c_52 => ?_) (fun c_52 => ?_)
          · skip
            refine z_iinc (v := nI (j + 1)) (lv' := [(0, _), (1, _), (2, _)]) hJ d_Tp_isWord_57 2 rfl (zinc _) (by decide) rfl ?_
            refine z_goto hJ d_Tp_isWord_60 ?_
            exact ih (by omega) (fun k hk => by
              by_cases e : k = j
              · rw [e]; exact c_52
              · exact hq k (by omega))
          · skip
            refine z_iconst (v := 0) hJ d_Tp_isWord_55 (by decide) ?_
            exact z_ri hR d_Tp_isWord_56 (by
                have h1 := q_allb_f (f := fun k => decide (T.1 (T.2.2.2.1 + k) = zch i k)) (j := j) (by simp [c_52]) (zlen.getD i 0) (by omega)
                unfold q_isW; rw [h1, decide_eq_true h_5, decide_eq_true h_21]; rfl) rfl
      exact L28 0 (Nat.zero_le _) (fun k hk => absurd hk (Nat.not_lt_zero k))
    · skip
      have h_21 : ¬ ((T.2.2.2.2.1 - T.2.2.2.1) = (zlen.getD i 0)) := by
        have e := nI_eq (a := (T.2.2.2.2.1 - T.2.2.2.1)) (b := (zlen.getD i 0)) (by omega) (by omega)
        exact fun q => c_21 (e.mpr q)
      refine z_iconst (v := 0) hJ d_Tp_isWord_24 (by decide) ?_
      exact z_ri hR d_Tp_isWord_25 (by unfold q_isW; rw [decide_eq_true h_5, decide_eq_false h_21]; rfl) rfl
set_option maxRecDepth 100000 in
theorem m_Tp_takeWord {g : Nat → Nat → Nat} {b : Nat → Nat} {T : TS} {i : Nat} (hz : T.2.1 ≤ 120) (he : T.2.2.2.2.1 ≤ T.2.1) (hse : T.2.2.2.1 ≤ T.2.2.2.2.1) (hk : T.2.2.1 ≤ 4) (hi : i < 20) : zM g y_Tp_takeWord b_Tp_takeWord 2 (some .boolean) 5 [.ref (b 0), .ref (g 1 i)] (tW g b T) [.int (zB (q_isW T i))] (tW g b (if q_isW T i then q_adv T else T)) := by
  refine zMz (lv := [(0, .ref (b 0)), (1, .ref (g 1 i))]) (by decide) (Nat.le_of_ble_eq_true rfl) rfl (fun J hJ hR => ?_)
  refine z_aload_n hJ d_Tp_takeWord_0 0 rfl ?_
  refine z_aload_n hJ d_Tp_takeWord_1 1 rfl ?_
  refine z_callVi hJ (m_Tp_isWord hz he hse hk hi) k_Tp_40 zL.id d_Tp_takeWord_2 hc_Tp 0 rfl rfl rfl (Nat.le_of_ble_eq_true rfl) ⟨by decide, by decide⟩ ?_
  refine zb_ne hJ d_Tp_takeWord_5 (fun c_5 => ?_) (fun c_5 => ?_)
  · skip
    refine z_aload_n hJ d_Tp_takeWord_10 0 rfl ?_
    refine z_callVv hJ (m_Tp_advance hz he) k_Tp_31 zL.id d_Tp_takeWord_11 hc_Tp 0 rfl rfl rfl (Nat.le_of_ble_eq_true rfl) ⟨by decide, by decide⟩ ?_
    refine z_iconst (v := 1) hJ d_Tp_takeWord_14 (by decide) ?_
    exact z_ri hR d_Tp_takeWord_15 (by rw [c_5]; rfl) (by rw [c_5]; rfl)
  · skip
    refine z_iconst (v := 0) hJ d_Tp_takeWord_8 (by decide) ?_
    exact z_ri hR d_Tp_takeWord_9 (by rw [c_5]; rfl) (by rw [c_5]; rfl)
set_option maxRecDepth 100000 in
theorem m_Tp_takeNumber {g : Nat → Nat → Nat} {b : Nat → Nat} {T : TS}  (hz : T.2.1 ≤ 120) (he : T.2.2.2.2.1 ≤ T.2.1) : zM g y_Tp_takeNumber b_Tp_takeNumber 2 (some .int) 2 [.ref (b 0)] (tW g b T) [.int T.2.2.2.2.2] (tW g b (q_adv T)) := by
  refine zMi (lv := [(0, .ref (b 0))]) (by decide) (Nat.le_of_ble_eq_true rfl) rfl (fun J hJ hR => ?_)
  refine z_aload_n hJ d_Tp_takeNumber_0 0 rfl ?_
  refine z_get hJ d_Tp_takeNumber_1 hc_Tp f_Tp_28 0 rfl rfl (by decide) ?_
  refine z_istore_n (lv' := [(0, _), (1, _)]) hJ d_Tp_takeNumber_4 (by decide) rfl ?_
  refine z_aload_n hJ d_Tp_takeNumber_5 0 rfl ?_
  refine z_callVv hJ (m_Tp_advance hz he) k_Tp_31 zL.id d_Tp_takeNumber_6 hc_Tp 0 rfl rfl rfl (Nat.le_of_ble_eq_true rfl) ⟨by decide, by decide⟩ ?_
  refine z_iload_n hJ d_Tp_takeNumber_9 1 rfl ?_
  exact z_ri hR d_Tp_takeNumber_10 rfl rfl
set_option maxRecDepth 100000 in
theorem m_Tp_isNumber {g : Nat → Nat → Nat} {b : Nat → Nat} {T : TS} {lo hi : Int32} (hk : T.2.2.1 ≤ 4) : zM g y_Tp_isNumber b_Tp_isNumber 3 (some .boolean) 1 [.ref (b 0), .int lo, .int hi] (tW g b T) [.int (zB (q_isN T lo hi))] (tW g b T) := by
  refine zMz (lv := [(0, .ref (b 0)), (1, .int lo), (2, .int hi)]) (by decide) (Nat.le_of_ble_eq_true rfl) rfl (fun J hJ hR => ?_)
  refine z_aload_n hJ d_Tp_isNumber_0 0 rfl ?_
  refine z_get hJ d_Tp_isNumber_1 hc_Tp f_Tp_19 0 rfl rfl (by decide) ?_
  refine z_iconst (v := 2) hJ d_Tp_isNumber_4 (by decide) ?_
  refine z_icmp_ne hJ d_Tp_isNumber_5 (fun c_5 => ?_) (fun c_5 => ?_)
  · skip
    have h_5 : ¬ (T.2.2.1 = 2) := by
      have e := nI_eq (a := T.2.2.1) (b := 2) (by omega) (by omega)
      exact fun q => c_5 (e.mpr q)
    refine z_iconst (v := 0) hJ d_Tp_isNumber_24 (by decide) ?_
    exact z_ri hR d_Tp_isNumber_25 (by simp [q_isN, h_5]; try rfl) rfl
  · skip
    have h_5 : T.2.2.1 = 2 := by
      have e := nI_eq (a := T.2.2.1) (b := 2) (by omega) (by omega)
      exact e.mp c_5
    refine z_aload_n hJ d_Tp_isNumber_8 0 rfl ?_
    refine z_get hJ d_Tp_isNumber_9 hc_Tp f_Tp_28 0 rfl rfl (by decide) ?_
    refine z_iload_n hJ d_Tp_isNumber_12 1 rfl ?_
    refine z_iload_n hJ d_Tp_isNumber_13 2 rfl ?_
    refine z_callNi hJ m_Sx_isWithin k_Tp_142 zL.nil d_Tp_isNumber_14 rfl rfl (Nat.le_of_ble_eq_true rfl) ⟨by decide, by decide⟩ ?_
    refine zb_eq hJ d_Tp_isNumber_17 (fun c_17 => ?_) (fun c_17 => ?_)
    · skip
      refine z_iconst (v := 0) hJ d_Tp_isNumber_24 (by decide) ?_
      exact z_ri hR d_Tp_isNumber_25 (by simp [q_isN, h_5, c_17]; try rfl) rfl
    · skip
      refine z_iconst (v := 1) hJ d_Tp_isNumber_20 (by decide) ?_
      refine z_goto hJ d_Tp_isNumber_21 ?_
      exact z_ri hR d_Tp_isNumber_25 (by simp [q_isN, h_5, c_17]; try rfl) rfl
set_option maxRecDepth 100000 in
theorem m_Tp_nameOfKind_0 {g : Nat → Nat → Nat}   : zM g y_Tp_nameOfKind b_Tp_nameOfKind 1 (some (.object "java/lang/String")) 0 [.int 0] ([]) [.ref (g 1 11)] ([]) := by
  refine zMa (lv := [(0, .int 0)]) (by decide) (Nat.le_of_ble_eq_true rfl) rfl (fun J hJ hR => ?_)
  refine z_iload_n hJ d_Tp_nameOfKind_0 0 rfl ?_
  refine z_tin (tgt := 36) hJ d_Tp_nameOfKind_1 (by decide) (by decide) rfl (by decide) ?_
  refine z_ldcS (i := 11) hJ d_Tp_nameOfKind_36 rfl ?_
  exact z_ra hR d_Tp_nameOfKind_38 rfl rfl
set_option maxRecDepth 100000 in
theorem m_Tp_nameOfKind_1 {g : Nat → Nat → Nat}   : zM g y_Tp_nameOfKind b_Tp_nameOfKind 1 (some (.object "java/lang/String")) 0 [.int 1] ([]) [.ref (g 1 12)] ([]) := by
  refine zMa (lv := [(0, .int 1)]) (by decide) (Nat.le_of_ble_eq_true rfl) rfl (fun J hJ hR => ?_)
  refine z_iload_n hJ d_Tp_nameOfKind_0 0 rfl ?_
  refine z_tin (tgt := 39) hJ d_Tp_nameOfKind_1 (by decide) (by decide) rfl (by decide) ?_
  refine z_ldcS (i := 12) hJ d_Tp_nameOfKind_39 rfl ?_
  exact z_ra hR d_Tp_nameOfKind_41 rfl rfl
set_option maxRecDepth 100000 in
theorem m_Tp_nameOfKind_2 {g : Nat → Nat → Nat}   : zM g y_Tp_nameOfKind b_Tp_nameOfKind 1 (some (.object "java/lang/String")) 0 [.int 2] ([]) [.ref (g 1 13)] ([]) := by
  refine zMa (lv := [(0, .int 2)]) (by decide) (Nat.le_of_ble_eq_true rfl) rfl (fun J hJ hR => ?_)
  refine z_iload_n hJ d_Tp_nameOfKind_0 0 rfl ?_
  refine z_tin (tgt := 42) hJ d_Tp_nameOfKind_1 (by decide) (by decide) rfl (by decide) ?_
  refine z_ldcS (i := 13) hJ d_Tp_nameOfKind_42 rfl ?_
  exact z_ra hR d_Tp_nameOfKind_44 rfl rfl
set_option maxRecDepth 100000 in
theorem m_Tp_nameOfKind_3 {g : Nat → Nat → Nat}   : zM g y_Tp_nameOfKind b_Tp_nameOfKind 1 (some (.object "java/lang/String")) 0 [.int 3] ([]) [.ref (g 1 14)] ([]) := by
  refine zMa (lv := [(0, .int 3)]) (by decide) (Nat.le_of_ble_eq_true rfl) rfl (fun J hJ hR => ?_)
  refine z_iload_n hJ d_Tp_nameOfKind_0 0 rfl ?_
  refine z_tin (tgt := 45) hJ d_Tp_nameOfKind_1 (by decide) (by decide) rfl (by decide) ?_
  refine z_ldcS (i := 14) hJ d_Tp_nameOfKind_45 rfl ?_
  exact z_ra hR d_Tp_nameOfKind_47 rfl rfl
set_option maxRecDepth 100000 in
theorem m_Tp_nameOfKind_4 {g : Nat → Nat → Nat}   : zM g y_Tp_nameOfKind b_Tp_nameOfKind 1 (some (.object "java/lang/String")) 0 [.int 4] ([]) [.ref (g 1 15)] ([]) := by
  refine zMa (lv := [(0, .int 4)]) (by decide) (Nat.le_of_ble_eq_true rfl) rfl (fun J hJ hR => ?_)
  refine z_iload_n hJ d_Tp_nameOfKind_0 0 rfl ?_
  refine z_tin (tgt := 48) hJ d_Tp_nameOfKind_1 (by decide) (by decide) rfl (by decide) ?_
  refine z_ldcS (i := 15) hJ d_Tp_nameOfKind_48 rfl ?_
  exact z_ra hR d_Tp_nameOfKind_50 rfl rfl
set_option maxRecDepth 100000 in
theorem m_Tp_nameOfKind_5 {g : Nat → Nat → Nat}   : zM g y_Tp_nameOfKind b_Tp_nameOfKind 1 (some (.object "java/lang/String")) 0 [.int 5] ([]) [.ref (g 1 16)] ([]) := by
  refine zMa (lv := [(0, .int 5)]) (by decide) (Nat.le_of_ble_eq_true rfl) rfl (fun J hJ hR => ?_)
  refine z_iload_n hJ d_Tp_nameOfKind_0 0 rfl ?_
  refine z_tout (tgt := 51) hJ d_Tp_nameOfKind_1 (by decide) (by decide) ?_
  refine z_ldcS (i := 16) hJ d_Tp_nameOfKind_51 rfl ?_
  exact z_ra hR d_Tp_nameOfKind_53 rfl rfl
set_option maxRecDepth 100000 in
theorem m_Tp_nameOfSort_0 {g : Nat → Nat → Nat}   : zM g y_Tp_nameOfSort b_Tp_nameOfSort 1 (some (.object "java/lang/String")) 0 [.int 0] ([]) [.ref (g 1 1)] ([]) := by
  refine zMa (lv := [(0, .int 0)]) (by decide) (Nat.le_of_ble_eq_true rfl) rfl (fun J hJ hR => ?_)
  refine z_iload_n hJ d_Tp_nameOfSort_0 0 rfl ?_
  refine z_tin (tgt := 32) hJ d_Tp_nameOfSort_1 (by decide) (by decide) rfl (by decide) ?_
  refine z_ldcS (i := 1) hJ d_Tp_nameOfSort_32 rfl ?_
  exact z_ra hR d_Tp_nameOfSort_34 rfl rfl
set_option maxRecDepth 100000 in
theorem m_Tp_nameOfSort_1 {g : Nat → Nat → Nat}   : zM g y_Tp_nameOfSort b_Tp_nameOfSort 1 (some (.object "java/lang/String")) 0 [.int 1] ([]) [.ref (g 1 2)] ([]) := by
  refine zMa (lv := [(0, .int 1)]) (by decide) (Nat.le_of_ble_eq_true rfl) rfl (fun J hJ hR => ?_)
  refine z_iload_n hJ d_Tp_nameOfSort_0 0 rfl ?_
  refine z_tin (tgt := 35) hJ d_Tp_nameOfSort_1 (by decide) (by decide) rfl (by decide) ?_
  refine z_ldcS (i := 2) hJ d_Tp_nameOfSort_35 rfl ?_
  exact z_ra hR d_Tp_nameOfSort_37 rfl rfl
set_option maxRecDepth 100000 in
theorem m_Tp_nameOfSort_2 {g : Nat → Nat → Nat}   : zM g y_Tp_nameOfSort b_Tp_nameOfSort 1 (some (.object "java/lang/String")) 0 [.int 2] ([]) [.ref (g 1 3)] ([]) := by
  refine zMa (lv := [(0, .int 2)]) (by decide) (Nat.le_of_ble_eq_true rfl) rfl (fun J hJ hR => ?_)
  refine z_iload_n hJ d_Tp_nameOfSort_0 0 rfl ?_
  refine z_tin (tgt := 38) hJ d_Tp_nameOfSort_1 (by decide) (by decide) rfl (by decide) ?_
  refine z_ldcS (i := 3) hJ d_Tp_nameOfSort_38 rfl ?_
  exact z_ra hR d_Tp_nameOfSort_40 rfl rfl
set_option maxRecDepth 100000 in
theorem m_Tp_nameOfSort_3 {g : Nat → Nat → Nat}   : zM g y_Tp_nameOfSort b_Tp_nameOfSort 1 (some (.object "java/lang/String")) 0 [.int 3] ([]) [.ref (g 1 4)] ([]) := by
  refine zMa (lv := [(0, .int 3)]) (by decide) (Nat.le_of_ble_eq_true rfl) rfl (fun J hJ hR => ?_)
  refine z_iload_n hJ d_Tp_nameOfSort_0 0 rfl ?_
  refine z_tin (tgt := 41) hJ d_Tp_nameOfSort_1 (by decide) (by decide) rfl (by decide) ?_
  refine z_ldcS (i := 4) hJ d_Tp_nameOfSort_41 rfl ?_
  exact z_ra hR d_Tp_nameOfSort_43 rfl rfl
set_option maxRecDepth 100000 in
theorem m_Tp_nameOfSort_4 {g : Nat → Nat → Nat}   : zM g y_Tp_nameOfSort b_Tp_nameOfSort 1 (some (.object "java/lang/String")) 0 [.int 4] ([]) [.ref (g 1 5)] ([]) := by
  refine zMa (lv := [(0, .int 4)]) (by decide) (Nat.le_of_ble_eq_true rfl) rfl (fun J hJ hR => ?_)
  refine z_iload_n hJ d_Tp_nameOfSort_0 0 rfl ?_
  refine z_tout (tgt := 44) hJ d_Tp_nameOfSort_1 (by decide) (by decide) ?_
  refine z_ldcS (i := 5) hJ d_Tp_nameOfSort_44 rfl ?_
  exact z_ra hR d_Tp_nameOfSort_46 rfl rfl
set_option maxRecDepth 100000 in
theorem m_Tp_kindInHand {g : Nat → Nat → Nat} {b : Nat → Nat} {T : TS}  (hz : T.2.1 ≤ 120) (he : T.2.2.2.2.1 ≤ T.2.1) (hse : T.2.2.2.1 ≤ T.2.2.2.2.1) (hk : T.2.2.1 ≤ 4) : zM g y_Tp_kindInHand b_Tp_kindInHand 2 (some .int) 5 [.ref (b 0)] (tW g b T) [.int (q_kind T)] (tW g b T) := by
  refine zMi (lv := [(0, .ref (b 0))]) (by decide) (Nat.le_of_ble_eq_true rfl) rfl (fun J hJ hR => ?_)
  refine z_iconst (v := 0) hJ d_Tp_kindInHand_0 (by decide) ?_
  refine z_istore_n (lv' := [(0, _), (1, _)]) hJ d_Tp_kindInHand_1 (by decide) rfl ?_
  refine z_iload_n hJ d_Tp_kindInHand_2 1 rfl ?_
  refine z_bipush (v := 6) hJ d_Tp_kindInHand_3 (by decide) ?_
  refine z_icmp_ge hJ d_Tp_kindInHand_5 (fun c => absurd c (by decide)) (fun _ => ?_)
  refine z_aload_n hJ d_Tp_kindInHand_8 0 rfl ?_
  refine z_iload_n hJ d_Tp_kindInHand_9 1 rfl ?_
  refine z_callSa hJ m_Tp_nameOfKind_0 k_Tp_113 zL.nil d_Tp_kindInHand_10 rfl rfl (Nat.le_of_ble_eq_true rfl) ⟨by decide, by decide⟩ ?_
  refine z_callVi hJ (m_Tp_isWord hz he hse hk (by decide)) k_Tp_40 zL.id d_Tp_kindInHand_13 hc_Tp 0 rfl rfl rfl (Nat.le_of_ble_eq_true rfl) ⟨by decide, by decide⟩ ?_
  refine zb_eq hJ d_Tp_kindInHand_16 (fun c_16 => ?_) (fun c_16 => ?_)
  · skip
    refine z_iinc (v := 1) (lv' := [(0, _), (1, _)]) hJ d_Tp_kindInHand_21 1 rfl (by decide) (by decide) rfl ?_
    refine z_goto hJ d_Tp_kindInHand_24 ?_
    refine z_iload_n hJ d_Tp_kindInHand_2 1 rfl ?_
    refine z_bipush (v := 6) hJ d_Tp_kindInHand_3 (by decide) ?_
    refine z_icmp_ge hJ d_Tp_kindInHand_5 (fun c => absurd c (by decide)) (fun _ => ?_)
    refine z_aload_n hJ d_Tp_kindInHand_8 0 rfl ?_
    refine z_iload_n hJ d_Tp_kindInHand_9 1 rfl ?_
    refine z_callSa hJ m_Tp_nameOfKind_1 k_Tp_113 zL.nil d_Tp_kindInHand_10 rfl rfl (Nat.le_of_ble_eq_true rfl) ⟨by decide, by decide⟩ ?_
    refine z_callVi hJ (m_Tp_isWord hz he hse hk (by decide)) k_Tp_40 zL.id d_Tp_kindInHand_13 hc_Tp 0 rfl rfl rfl (Nat.le_of_ble_eq_true rfl) ⟨by decide, by decide⟩ ?_
    refine zb_eq hJ d_Tp_kindInHand_16 (fun c_16_1 => ?_) (fun c_16_1 => ?_)
    · skip
      refine z_iinc (v := 2) (lv' := [(0, _), (1, _)]) hJ d_Tp_kindInHand_21 1 rfl (by decide) (by decide) rfl ?_
      refine z_goto hJ d_Tp_kindInHand_24 ?_
      refine z_iload_n hJ d_Tp_kindInHand_2 1 rfl ?_
      refine z_bipush (v := 6) hJ d_Tp_kindInHand_3 (by decide) ?_
      refine z_icmp_ge hJ d_Tp_kindInHand_5 (fun c => absurd c (by decide)) (fun _ => ?_)
      refine z_aload_n hJ d_Tp_kindInHand_8 0 rfl ?_
      refine z_iload_n hJ d_Tp_kindInHand_9 1 rfl ?_
      refine z_callSa hJ m_Tp_nameOfKind_2 k_Tp_113 zL.nil d_Tp_kindInHand_10 rfl rfl (Nat.le_of_ble_eq_true rfl) ⟨by decide, by decide⟩ ?_
      refine z_callVi hJ (m_Tp_isWord hz he hse hk (by decide)) k_Tp_40 zL.id d_Tp_kindInHand_13 hc_Tp 0 rfl rfl rfl (Nat.le_of_ble_eq_true rfl) ⟨by decide, by decide⟩ ?_
      refine zb_eq hJ d_Tp_kindInHand_16 (fun c_16_2 => ?_) (fun c_16_2 => ?_)
      · skip
        refine z_iinc (v := 3) (lv' := [(0, _), (1, _)]) hJ d_Tp_kindInHand_21 1 rfl (by decide) (by decide) rfl ?_
        refine z_goto hJ d_Tp_kindInHand_24 ?_
        refine z_iload_n hJ d_Tp_kindInHand_2 1 rfl ?_
        refine z_bipush (v := 6) hJ d_Tp_kindInHand_3 (by decide) ?_
        refine z_icmp_ge hJ d_Tp_kindInHand_5 (fun c => absurd c (by decide)) (fun _ => ?_)
        refine z_aload_n hJ d_Tp_kindInHand_8 0 rfl ?_
        refine z_iload_n hJ d_Tp_kindInHand_9 1 rfl ?_
        refine z_callSa hJ m_Tp_nameOfKind_3 k_Tp_113 zL.nil d_Tp_kindInHand_10 rfl rfl (Nat.le_of_ble_eq_true rfl) ⟨by decide, by decide⟩ ?_
        refine z_callVi hJ (m_Tp_isWord hz he hse hk (by decide)) k_Tp_40 zL.id d_Tp_kindInHand_13 hc_Tp 0 rfl rfl rfl (Nat.le_of_ble_eq_true rfl) ⟨by decide, by decide⟩ ?_
        refine zb_eq hJ d_Tp_kindInHand_16 (fun c_16_3 => ?_) (fun c_16_3 => ?_)
        · skip
          refine z_iinc (v := 4) (lv' := [(0, _), (1, _)]) hJ d_Tp_kindInHand_21 1 rfl (by decide) (by decide) rfl ?_
          refine z_goto hJ d_Tp_kindInHand_24 ?_
          refine z_iload_n hJ d_Tp_kindInHand_2 1 rfl ?_
          refine z_bipush (v := 6) hJ d_Tp_kindInHand_3 (by decide) ?_
          refine z_icmp_ge hJ d_Tp_kindInHand_5 (fun c => absurd c (by decide)) (fun _ => ?_)
          refine z_aload_n hJ d_Tp_kindInHand_8 0 rfl ?_
          refine z_iload_n hJ d_Tp_kindInHand_9 1 rfl ?_
          refine z_callSa hJ m_Tp_nameOfKind_4 k_Tp_113 zL.nil d_Tp_kindInHand_10 rfl rfl (Nat.le_of_ble_eq_true rfl) ⟨by decide, by decide⟩ ?_
          refine z_callVi hJ (m_Tp_isWord hz he hse hk (by decide)) k_Tp_40 zL.id d_Tp_kindInHand_13 hc_Tp 0 rfl rfl rfl (Nat.le_of_ble_eq_true rfl) ⟨by decide, by decide⟩ ?_
          refine zb_eq hJ d_Tp_kindInHand_16 (fun c_16_4 => ?_) (fun c_16_4 => ?_)
          · skip
            refine z_iinc (v := 5) (lv' := [(0, _), (1, _)]) hJ d_Tp_kindInHand_21 1 rfl (by decide) (by decide) rfl ?_
            refine z_goto hJ d_Tp_kindInHand_24 ?_
            refine z_iload_n hJ d_Tp_kindInHand_2 1 rfl ?_
            refine z_bipush (v := 6) hJ d_Tp_kindInHand_3 (by decide) ?_
            refine z_icmp_ge hJ d_Tp_kindInHand_5 (fun c => absurd c (by decide)) (fun _ => ?_)
            refine z_aload_n hJ d_Tp_kindInHand_8 0 rfl ?_
            refine z_iload_n hJ d_Tp_kindInHand_9 1 rfl ?_
            refine z_callSa hJ m_Tp_nameOfKind_5 k_Tp_113 zL.nil d_Tp_kindInHand_10 rfl rfl (Nat.le_of_ble_eq_true rfl) ⟨by decide, by decide⟩ ?_
            refine z_callVi hJ (m_Tp_isWord hz he hse hk (by decide)) k_Tp_40 zL.id d_Tp_kindInHand_13 hc_Tp 0 rfl rfl rfl (Nat.le_of_ble_eq_true rfl) ⟨by decide, by decide⟩ ?_
            refine zb_eq hJ d_Tp_kindInHand_16 (fun c_16_5 => ?_) (fun c_16_5 => ?_)
            · skip
              refine z_iinc (v := 6) (lv' := [(0, _), (1, _)]) hJ d_Tp_kindInHand_21 1 rfl (by decide) (by decide) rfl ?_
              refine z_goto hJ d_Tp_kindInHand_24 ?_
              refine z_iload_n hJ d_Tp_kindInHand_2 1 rfl ?_
              refine z_bipush (v := 6) hJ d_Tp_kindInHand_3 (by decide) ?_
              refine z_icmp_ge hJ d_Tp_kindInHand_5 (fun _ => ?_) (fun c => absurd c (by decide))
              refine z_iconst (v := (-1)) hJ d_Tp_kindInHand_27 (by decide) ?_
              exact z_ri hR d_Tp_kindInHand_28 (by simp [q_kind, c_16, c_16_1, c_16_2, c_16_3, c_16_4, c_16_5]) rfl
            · skip
              refine z_iload_n hJ d_Tp_kindInHand_19 1 rfl ?_
              exact z_ri hR d_Tp_kindInHand_20 (by simp [q_kind, c_16, c_16_1, c_16_2, c_16_3, c_16_4, c_16_5]) rfl
          · skip
            refine z_iload_n hJ d_Tp_kindInHand_19 1 rfl ?_
            exact z_ri hR d_Tp_kindInHand_20 (by simp [q_kind, c_16, c_16_1, c_16_2, c_16_3, c_16_4]) rfl
        · skip
          refine z_iload_n hJ d_Tp_kindInHand_19 1 rfl ?_
          exact z_ri hR d_Tp_kindInHand_20 (by simp [q_kind, c_16, c_16_1, c_16_2, c_16_3]) rfl
      · skip
        refine z_iload_n hJ d_Tp_kindInHand_19 1 rfl ?_
        exact z_ri hR d_Tp_kindInHand_20 (by simp [q_kind, c_16, c_16_1, c_16_2]) rfl
    · skip
      refine z_iload_n hJ d_Tp_kindInHand_19 1 rfl ?_
      exact z_ri hR d_Tp_kindInHand_20 (by simp [q_kind, c_16, c_16_1]) rfl
  · skip
    refine z_iload_n hJ d_Tp_kindInHand_19 1 rfl ?_
    exact z_ri hR d_Tp_kindInHand_20 (by simp [q_kind, c_16]) rfl
set_option maxRecDepth 100000 in
theorem m_Tp_sortInHand {g : Nat → Nat → Nat} {b : Nat → Nat} {T : TS}  (hz : T.2.1 ≤ 120) (he : T.2.2.2.2.1 ≤ T.2.1) (hse : T.2.2.2.1 ≤ T.2.2.2.2.1) (hk : T.2.2.1 ≤ 4) : zM g y_Tp_sortInHand b_Tp_sortInHand 2 (some .int) 5 [.ref (b 0)] (tW g b T) [.int (q_sort T)] (tW g b T) := by
  refine zMi (lv := [(0, .ref (b 0))]) (by decide) (Nat.le_of_ble_eq_true rfl) rfl (fun J hJ hR => ?_)
  refine z_iconst (v := 0) hJ d_Tp_sortInHand_0 (by decide) ?_
  refine z_istore_n (lv' := [(0, _), (1, _)]) hJ d_Tp_sortInHand_1 (by decide) rfl ?_
  refine z_iload_n hJ d_Tp_sortInHand_2 1 rfl ?_
  refine z_iconst (v := 5) hJ d_Tp_sortInHand_3 (by decide) ?_
  refine z_icmp_ge hJ d_Tp_sortInHand_4 (fun c => absurd c (by decide)) (fun _ => ?_)
  refine z_aload_n hJ d_Tp_sortInHand_7 0 rfl ?_
  refine z_iload_n hJ d_Tp_sortInHand_8 1 rfl ?_
  refine z_callSa hJ m_Tp_nameOfSort_0 k_Tp_129 zL.nil d_Tp_sortInHand_9 rfl rfl (Nat.le_of_ble_eq_true rfl) ⟨by decide, by decide⟩ ?_
  refine z_callVi hJ (m_Tp_isWord hz he hse hk (by decide)) k_Tp_40 zL.id d_Tp_sortInHand_12 hc_Tp 0 rfl rfl rfl (Nat.le_of_ble_eq_true rfl) ⟨by decide, by decide⟩ ?_
  refine zb_eq hJ d_Tp_sortInHand_15 (fun c_15 => ?_) (fun c_15 => ?_)
  · skip
    refine z_iinc (v := 1) (lv' := [(0, _), (1, _)]) hJ d_Tp_sortInHand_20 1 rfl (by decide) (by decide) rfl ?_
    refine z_goto hJ d_Tp_sortInHand_23 ?_
    refine z_iload_n hJ d_Tp_sortInHand_2 1 rfl ?_
    refine z_iconst (v := 5) hJ d_Tp_sortInHand_3 (by decide) ?_
    refine z_icmp_ge hJ d_Tp_sortInHand_4 (fun c => absurd c (by decide)) (fun _ => ?_)
    refine z_aload_n hJ d_Tp_sortInHand_7 0 rfl ?_
    refine z_iload_n hJ d_Tp_sortInHand_8 1 rfl ?_
    refine z_callSa hJ m_Tp_nameOfSort_1 k_Tp_129 zL.nil d_Tp_sortInHand_9 rfl rfl (Nat.le_of_ble_eq_true rfl) ⟨by decide, by decide⟩ ?_
    refine z_callVi hJ (m_Tp_isWord hz he hse hk (by decide)) k_Tp_40 zL.id d_Tp_sortInHand_12 hc_Tp 0 rfl rfl rfl (Nat.le_of_ble_eq_true rfl) ⟨by decide, by decide⟩ ?_
    refine zb_eq hJ d_Tp_sortInHand_15 (fun c_15_1 => ?_) (fun c_15_1 => ?_)
    · skip
      refine z_iinc (v := 2) (lv' := [(0, _), (1, _)]) hJ d_Tp_sortInHand_20 1 rfl (by decide) (by decide) rfl ?_
      refine z_goto hJ d_Tp_sortInHand_23 ?_
      refine z_iload_n hJ d_Tp_sortInHand_2 1 rfl ?_
      refine z_iconst (v := 5) hJ d_Tp_sortInHand_3 (by decide) ?_
      refine z_icmp_ge hJ d_Tp_sortInHand_4 (fun c => absurd c (by decide)) (fun _ => ?_)
      refine z_aload_n hJ d_Tp_sortInHand_7 0 rfl ?_
      refine z_iload_n hJ d_Tp_sortInHand_8 1 rfl ?_
      refine z_callSa hJ m_Tp_nameOfSort_2 k_Tp_129 zL.nil d_Tp_sortInHand_9 rfl rfl (Nat.le_of_ble_eq_true rfl) ⟨by decide, by decide⟩ ?_
      refine z_callVi hJ (m_Tp_isWord hz he hse hk (by decide)) k_Tp_40 zL.id d_Tp_sortInHand_12 hc_Tp 0 rfl rfl rfl (Nat.le_of_ble_eq_true rfl) ⟨by decide, by decide⟩ ?_
      refine zb_eq hJ d_Tp_sortInHand_15 (fun c_15_2 => ?_) (fun c_15_2 => ?_)
      · skip
        refine z_iinc (v := 3) (lv' := [(0, _), (1, _)]) hJ d_Tp_sortInHand_20 1 rfl (by decide) (by decide) rfl ?_
        refine z_goto hJ d_Tp_sortInHand_23 ?_
        refine z_iload_n hJ d_Tp_sortInHand_2 1 rfl ?_
        refine z_iconst (v := 5) hJ d_Tp_sortInHand_3 (by decide) ?_
        refine z_icmp_ge hJ d_Tp_sortInHand_4 (fun c => absurd c (by decide)) (fun _ => ?_)
        refine z_aload_n hJ d_Tp_sortInHand_7 0 rfl ?_
        refine z_iload_n hJ d_Tp_sortInHand_8 1 rfl ?_
        refine z_callSa hJ m_Tp_nameOfSort_3 k_Tp_129 zL.nil d_Tp_sortInHand_9 rfl rfl (Nat.le_of_ble_eq_true rfl) ⟨by decide, by decide⟩ ?_
        refine z_callVi hJ (m_Tp_isWord hz he hse hk (by decide)) k_Tp_40 zL.id d_Tp_sortInHand_12 hc_Tp 0 rfl rfl rfl (Nat.le_of_ble_eq_true rfl) ⟨by decide, by decide⟩ ?_
        refine zb_eq hJ d_Tp_sortInHand_15 (fun c_15_3 => ?_) (fun c_15_3 => ?_)
        · skip
          refine z_iinc (v := 4) (lv' := [(0, _), (1, _)]) hJ d_Tp_sortInHand_20 1 rfl (by decide) (by decide) rfl ?_
          refine z_goto hJ d_Tp_sortInHand_23 ?_
          refine z_iload_n hJ d_Tp_sortInHand_2 1 rfl ?_
          refine z_iconst (v := 5) hJ d_Tp_sortInHand_3 (by decide) ?_
          refine z_icmp_ge hJ d_Tp_sortInHand_4 (fun c => absurd c (by decide)) (fun _ => ?_)
          refine z_aload_n hJ d_Tp_sortInHand_7 0 rfl ?_
          refine z_iload_n hJ d_Tp_sortInHand_8 1 rfl ?_
          refine z_callSa hJ m_Tp_nameOfSort_4 k_Tp_129 zL.nil d_Tp_sortInHand_9 rfl rfl (Nat.le_of_ble_eq_true rfl) ⟨by decide, by decide⟩ ?_
          refine z_callVi hJ (m_Tp_isWord hz he hse hk (by decide)) k_Tp_40 zL.id d_Tp_sortInHand_12 hc_Tp 0 rfl rfl rfl (Nat.le_of_ble_eq_true rfl) ⟨by decide, by decide⟩ ?_
          refine zb_eq hJ d_Tp_sortInHand_15 (fun c_15_4 => ?_) (fun c_15_4 => ?_)
          · skip
            refine z_iinc (v := 5) (lv' := [(0, _), (1, _)]) hJ d_Tp_sortInHand_20 1 rfl (by decide) (by decide) rfl ?_
            refine z_goto hJ d_Tp_sortInHand_23 ?_
            refine z_iload_n hJ d_Tp_sortInHand_2 1 rfl ?_
            refine z_iconst (v := 5) hJ d_Tp_sortInHand_3 (by decide) ?_
            refine z_icmp_ge hJ d_Tp_sortInHand_4 (fun _ => ?_) (fun c => absurd c (by decide))
            refine z_iconst (v := (-1)) hJ d_Tp_sortInHand_26 (by decide) ?_
            exact z_ri hR d_Tp_sortInHand_27 (by simp [q_sort, c_15, c_15_1, c_15_2, c_15_3, c_15_4]) rfl
          · skip
            refine z_iload_n hJ d_Tp_sortInHand_18 1 rfl ?_
            exact z_ri hR d_Tp_sortInHand_19 (by simp [q_sort, c_15, c_15_1, c_15_2, c_15_3, c_15_4]) rfl
        · skip
          refine z_iload_n hJ d_Tp_sortInHand_18 1 rfl ?_
          exact z_ri hR d_Tp_sortInHand_19 (by simp [q_sort, c_15, c_15_1, c_15_2, c_15_3]) rfl
      · skip
        refine z_iload_n hJ d_Tp_sortInHand_18 1 rfl ?_
        exact z_ri hR d_Tp_sortInHand_19 (by simp [q_sort, c_15, c_15_1, c_15_2]) rfl
    · skip
      refine z_iload_n hJ d_Tp_sortInHand_18 1 rfl ?_
      exact z_ri hR d_Tp_sortInHand_19 (by simp [q_sort, c_15, c_15_1]) rfl
  · skip
    refine z_iload_n hJ d_Tp_sortInHand_18 1 rfl ?_
    exact z_ri hR d_Tp_sortInHand_19 (by simp [q_sort, c_15]) rfl
