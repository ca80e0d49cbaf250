def q_ls (z : Nat) : Int32 := if z = 0 then -1 else nI z
theorem q_ls_0 {z : Nat} (hz : z < 1000) : (q_ls z < 0 ↔ z = 0) := by
  unfold q_ls
  by_cases h : z = 0
  · rw [if_pos h]; exact ⟨fun _ => h, fun _ => by decide⟩
  · rw [if_neg h]; exact ⟨fun q => absurd q (nI_pos (by omega)), fun q => absurd q h⟩
theorem q_ls_p {z : Nat} (h : ¬ z = 0) : q_ls z = nI z := if_neg h
theorem q_sum0 (f : Nat → Int32) (h : ∀ i, f i = 0) : ∀ n, q_sum f n = 0
  | 0 => rfl
  | n + 1 => by rw [q_sum, q_sum0 f h n, h n]; rfl
theorem q_met0 {P : RS} (hG : zRg P) {t : Nat} (ht : t < P.2.2.1) : q_isMet P 0 t = false := by
  obtain ⟨e, h1, h9, ee⟩ := (hG.2.2.2 t ht).2.2.1
  unfold q_isMet q_helpA
  rw [q_sum0 _ (fun i => by unfold q_help; rw [Nat.zero_testBit, if_pos rfl]), ee]
  have : (0 : Int32) < nI e := nI_lt (a := 0) (b := e) (by omega) (by omega)
  exact decide_eq_false (fun q => q this)
set_option maxRecDepth 100000 in
theorem m_Mo_leastSet {g : Nat → Nat → Nat} {a : Nat → Nat} {x0 : Nat → Int32} {x1 : Nat → Int32} {x3 : Nat → Int32} {x4 : Nat → Int32} {x5 : Nat → Int64} {x6 : Nat → Int32} {x7 : Nat} {x8 : Int32} {x9 : Nat} {x10 : Nat} {x11 : Int64} {x12 : Int32} {x13 : Bool} {x14 : Nat → Int32} {x15 : Nat → Int32} {x16 : Nat → Int64} {x17 : Nat → Int64} {x18 : Nat → Int32} {x19 : Nat → Int32} {x20 : Bool} {P : RS} {t : Nat} (hR0 : zRo P x0) (hP : zPi P) (hG : zRg P) (ht : t < P.2.2.1) : zM g y_Mo_leastSet b_Mo_leastSet 6 (some .int) 9 [.ref (a 0), .int (nI t)] (mV g a x0 x1 127 x3 x4 x5 x6 x7 x8 x9 x10 x11 x12 x13 x14 x15 x16 x17 x18 x19 x20) [.int (q_ls (q_sm (fun s => q_isMet P (s &&& q_awk P) t) (q_awk P) 128))] (mV g a x0 x1 127 x3 x4 x5 x6 x7 x8 x9 x10 x11 x12 x13 x14 x15 x16 x17 x18 x19 x20) := by
  have hj7 := hP.1
  have hj8 := hP.2.1
  have ha7 := q_awk_128 hP.1
  refine zMi (lv := [(0, .ref (a 0)), (1, .int (nI t))]) (by decide) (Nat.le_of_ble_eq_true rfl) rfl (fun J hJ hR => ?_)
  refine z_aload_n hJ d_Mo_leastSet_0 0 rfl ?_
  refine z_callVi hJ (m_Mo_awakeOnes (M := (x0, x1, 127, x3, x4, x5, x6, x7, x8, x9, x10, x11, x12, x13, x14, x15, x16, x17, x18, x19, x20)) hR0 hP hG) k_Mo_160 zL_mv d_Mo_leastSet_1 hc_Mo 0 rfl rfl rfl (Nat.le_of_ble_eq_true rfl) ⟨by decide, by decide⟩ ?_
  refine z_istore_n (lv' := [(0, _), (1, _), (2, _)]) hJ d_Mo_leastSet_4 (by decide) rfl ?_
  refine z_iconst (v := (-1)) hJ d_Mo_leastSet_5 (by decide) ?_
  refine z_istore_n (lv' := [(0, _), (1, _), (2, _), (3, _)]) hJ d_Mo_leastSet_6 (by decide) rfl ?_
  refine z_iconst (v := 0) hJ d_Mo_leastSet_7 (by decide) ?_
  refine z_istore (lv' := [(0, _), (1, _), (2, _), (3, _), (4, _)]) hJ d_Mo_leastSet_8 (by decide) rfl ?_
  have L10 : ∀ j : Nat, j ≤ 128 → J (mV g a x0 x1 127 x3 x4 x5 x6 x7 x8 x9 x10 x11 x12 x13 x14 x15 x16 x17 x18 x19 x20) 10 [(0, .ref (a 0)), (1, .int (nI t)), (2, .int (nI (q_awk P))), (3, .int (q_ls (q_sm (fun s => q_isMet P (s &&& q_awk P) t) (q_awk P) j))), (4, .int (nI j))] [] := by
    refine zloop (128) (fun j hjN ih => ?_)
    have hle := q_sm_le (fun s => q_isMet P (s &&& q_awk P) t) (q_awk P) j
    refine z_iload hJ d_Mo_leastSet_10 4 rfl ?_
    refine z_bipush (v := 127) hJ d_Mo_leastSet_12 (by decide) ?_
    refine z_icmp_gt hJ d_Mo_leastSet_14 (fun c_14 => ?_) (fun c_14 => ?_)
    · skip
      try dsimp only at c_14
      have h_14 : 127 < j := by
        have e := nI_ltI (a := 127) (b := j) (by omega) (by omega)
        exact e.mp c_14
      obtain rfl : j = 128 := by omega
      refine z_iload_n hJ d_Mo_leastSet_77 3 rfl ?_
      exact z_ri hR d_Mo_leastSet_78 rfl rfl
    · skip
      try dsimp only at c_14
      have h_14 : ¬ (127 < j) := by
        have e := nI_ltI (a := 127) (b := j) (by omega) (by omega)
        exact fun q => c_14 (e.mpr q)
      refine z_iload_n hJ d_Mo_leastSet_17 3 rfl ?_
      refine z_if_lt hJ d_Mo_leastSet_18 (fun c_18 => ?_) (fun c_18 => ?_)
      · skip
        try dsimp only at c_18
        have hz0 := (q_ls_0 (by omega)).mp c_18
        refine z_iconst (v := 1) hJ d_Mo_leastSet_33 (by decide) ?_
        refine z_goto hJ d_Mo_leastSet_34 ?_
        refine z_istore (lv' := [(0, _), (1, _), (2, _), (3, _), (4, _), (5, _)]) hJ d_Mo_leastSet_38 (by decide) rfl ?_
        refine z_iload hJ d_Mo_leastSet_40 4 rfl ?_
        refine z_iload_n hJ d_Mo_leastSet_42 2 rfl ?_
        refine z_iconst (v := (-1)) hJ d_Mo_leastSet_43 (by decide) ?_
        refine z_ixor hJ d_Mo_leastSet_44 ?_
        refine z_iand hJ d_Mo_leastSet_45 ?_
        refine z_c (y := nI (j &&& q_not (q_awk P))) (by rw [znot, zand]) ?_
        have hjl : j &&& q_not (q_awk P) ≤ j := Nat.and_le_left
        refine z_if_ne hJ d_Mo_leastSet_46 (fun c_46 => ?_) (fun c_46 => ?_)
        · skip
          try dsimp only at c_46
          have h_46 : ¬ ((j &&& q_not (q_awk P)) = 0) := by
            have e := nI_eq (a := (j &&& q_not (q_awk P))) (b := 0) (by omega) (by omega)
            exact fun q => c_46 (e.mpr q)
          have hsub : ¬ j &&& q_awk P = j := fun q => h_46 (q_subs2 (by omega) q)
          refine z_iload_n hJ d_Mo_leastSet_69 3 rfl ?_
          refine z_istore_n (lv' := [(0, _), (1, _), (2, _), (3, _), (4, _), (5, _)]) hJ d_Mo_leastSet_70 (by decide) rfl ?_
          refine z_iinc (v := nI (j + 1)) (lv' := [(0, _), (1, _), (2, _), (3, _), (4, _), (5, _)]) hJ d_Mo_leastSet_71 4 rfl (zinc _) (by decide) rfl ?_
          refine z_goto hJ d_Mo_leastSet_74 ?_
          refine z_drop hJ [0, 1, 2, 3, 4] rfl ?_
          have e := ih (by omega)
          rw [q_sm_f (m := (fun s => q_isMet P (s &&& q_awk P) t)) (fun q => hsub q.2.1)] at e
          exact e
        · skip
          try dsimp only at c_46
          have h_46 : (j &&& q_not (q_awk P)) = 0 := by
            have e := nI_eq (a := (j &&& q_not (q_awk P))) (b := 0) (by omega) (by omega)
            exact e.mp c_46
          have hsub : j &&& q_awk P = j := q_subs (by omega) h_46
          refine z_iload hJ d_Mo_leastSet_49 5 rfl ?_
          refine z_if_eq hJ d_Mo_leastSet_51 (fun c => absurd c (by decide)) (fun _ => ?_)
          refine z_aload_n hJ d_Mo_leastSet_54 0 rfl ?_
          refine z_iload hJ d_Mo_leastSet_55 4 rfl ?_
          refine z_iload_n hJ d_Mo_leastSet_57 1 rfl ?_
          refine z_callVi hJ (m_Mo_isMetBy (M := (x0, x1, 127, x3, x4, x5, x6, x7, x8, x9, x10, x11, x12, x13, x14, x15, x16, x17, x18, x19, x20)) hR0 hP hG (by omega) (by omega)) k_Mo_172 zL_mv d_Mo_leastSet_58 hc_Mo 0 rfl rfl rfl (Nat.le_of_ble_eq_true rfl) ⟨by decide, by decide⟩ ?_
          refine zb_eq hJ d_Mo_leastSet_61 (fun c_61 => ?_) (fun c_61 => ?_)
          · skip
            try dsimp only at c_61
            refine z_iload_n hJ d_Mo_leastSet_69 3 rfl ?_
            refine z_istore_n (lv' := [(0, _), (1, _), (2, _), (3, _), (4, _), (5, _)]) hJ d_Mo_leastSet_70 (by decide) rfl ?_
            refine z_iinc (v := nI (j + 1)) (lv' := [(0, _), (1, _), (2, _), (3, _), (4, _), (5, _)]) hJ d_Mo_leastSet_71 4 rfl (zinc _) (by decide) rfl ?_
            refine z_goto hJ d_Mo_leastSet_74 ?_
            refine z_drop hJ [0, 1, 2, 3, 4] rfl ?_
            have e := ih (by omega)
            rw [q_sm_f (m := (fun s => q_isMet P (s &&& q_awk P) t)) (fun q => by have q2 : q_isMet P (j &&& q_awk P) t = true := q.2.2.1; rw [c_61] at q2; exact absurd q2 (by decide))] at e
            exact e
          · skip
            try dsimp only at c_61
            refine z_iload hJ d_Mo_leastSet_64 4 rfl ?_
            refine z_goto hJ d_Mo_leastSet_66 ?_
            refine z_istore_n (lv' := [(0, _), (1, _), (2, _), (3, _), (4, _), (5, _)]) hJ d_Mo_leastSet_70 (by decide) rfl ?_
            refine z_iinc (v := nI (j + 1)) (lv' := [(0, _), (1, _), (2, _), (3, _), (4, _), (5, _)]) hJ d_Mo_leastSet_71 4 rfl (zinc _) (by decide) rfl ?_
            refine z_goto hJ d_Mo_leastSet_74 ?_
            refine z_drop hJ [0, 1, 2, 3, 4] rfl ?_
            have e := ih (by omega)
            have hj0 : j ≠ 0 := fun z => by rw [z, Nat.zero_and, q_met0 hG ht] at c_61; exact absurd c_61 (by decide)
            rw [q_sm_t (m := (fun s => q_isMet P (s &&& q_awk P) t)) ⟨hj0, hsub, c_61, Or.inl hz0⟩, q_ls_p hj0] at e
            exact e
      · skip
        try dsimp only at c_18
        have hz0 : ¬ (q_sm (fun s => q_isMet P (s &&& q_awk P) t) (q_awk P) j) = 0 := fun e => c_18 ((q_ls_0 (by omega)).mpr e)
        refine z_iload hJ d_Mo_leastSet_21 4 rfl ?_
        refine z_callSi hJ (m_Mo_bits (by omega)) k_Mo_166 zL.nil d_Mo_leastSet_23 rfl rfl (Nat.le_of_ble_eq_true rfl) ⟨by decide, by decide⟩ ?_
        refine z_iload_n hJ d_Mo_leastSet_26 3 rfl ?_
        refine z_c (y := nI (q_sm (fun s => q_isMet P (s &&& q_awk P) t) (q_awk P) j)) (q_ls_p hz0) ?_
        refine z_callSi hJ (m_Mo_bits (by omega)) k_Mo_166 zL.nil d_Mo_leastSet_27 rfl rfl (Nat.le_of_ble_eq_true rfl) ⟨by decide, by decide⟩ ?_
        refine z_icmp_ge hJ d_Mo_leastSet_30 (fun c_30 => ?_) (fun c_30 => ?_)
        · skip
          try dsimp only at c_30
          refine z_iconst (v := 0) hJ d_Mo_leastSet_37 (by decide) ?_
          refine z_istore (lv' := [(0, _), (1, _), (2, _), (3, _), (4, _), (5, _)]) hJ d_Mo_leastSet_38 (by decide) rfl ?_
          refine z_iload hJ d_Mo_leastSet_40 4 rfl ?_
          refine z_iload_n hJ d_Mo_leastSet_42 2 rfl ?_
          refine z_iconst (v := (-1)) hJ d_Mo_leastSet_43 (by decide) ?_
          refine z_ixor hJ d_Mo_leastSet_44 ?_
          refine z_iand hJ d_Mo_leastSet_45 ?_
          refine z_c (y := nI (j &&& q_not (q_awk P))) (by rw [znot, zand]) ?_
          have hjl : j &&& q_not (q_awk P) ≤ j := Nat.and_le_left
          refine z_if_ne hJ d_Mo_leastSet_46 (fun c_46 => ?_) (fun c_46 => ?_)
          · skip
            try dsimp only at c_46
            have h_46 : ¬ ((j &&& q_not (q_awk P)) = 0) := by
              have e := nI_eq (a := (j &&& q_not (q_awk P))) (b := 0) (by omega) (by omega)
              exact fun q => c_46 (e.mpr q)
            have hsub : ¬ j &&& q_awk P = j := fun q => h_46 (q_subs2 (by omega) q)
            refine z_iload_n hJ d_Mo_leastSet_69 3 rfl ?_
            refine z_istore_n (lv' := [(0, _), (1, _), (2, _), (3, _), (4, _), (5, _)]) hJ d_Mo_leastSet_70 (by decide) rfl ?_
            refine z_iinc (v := nI (j + 1)) (lv' := [(0, _), (1, _), (2, _), (3, _), (4, _), (5, _)]) hJ d_Mo_leastSet_71 4 rfl (zinc _) (by decide) rfl ?_
            refine z_goto hJ d_Mo_leastSet_74 ?_
            refine z_drop hJ [0, 1, 2, 3, 4] rfl ?_
            have e := ih (by omega)
            rw [q_sm_f (m := (fun s => q_isMet P (s &&& q_awk P) t)) (fun q => hsub q.2.1)] at e
            exact e
          · skip
            try dsimp only at c_46
            have h_46 : (j &&& q_not (q_awk P)) = 0 := by
              have e := nI_eq (a := (j &&& q_not (q_awk P))) (b := 0) (by omega) (by omega)
              exact e.mp c_46
            have hsub : j &&& q_awk P = j := q_subs (by omega) h_46
            refine z_iload hJ d_Mo_leastSet_49 5 rfl ?_
            refine z_if_eq hJ d_Mo_leastSet_51 (fun _ => ?_) (fun c => absurd c (by decide))
            refine z_iload_n hJ d_Mo_leastSet_69 3 rfl ?_
            refine z_istore_n (lv' := [(0, _), (1, _), (2, _), (3, _), (4, _), (5, _)]) hJ d_Mo_leastSet_70 (by decide) rfl ?_
            refine z_iinc (v := nI (j + 1)) (lv' := [(0, _), (1, _), (2, _), (3, _), (4, _), (5, _)]) hJ d_Mo_leastSet_71 4 rfl (zinc _) (by decide) rfl ?_
            refine z_goto hJ d_Mo_leastSet_74 ?_
            refine z_drop hJ [0, 1, 2, 3, 4] rfl ?_
            have e := ih (by omega)
            rw [q_sm_f (m := (fun s => q_isMet P (s &&& q_awk P) t)) (fun q => q.2.2.2.elim (fun e => hz0 e) (fun e => e (by rw [q_bc_bits (by omega), q_bc_bits (by omega)]; exact c_30)))] at e
            exact e
        · skip
          try dsimp only at c_30
          refine z_iconst (v := 1) hJ d_Mo_leastSet_33 (by decide) ?_
          refine z_goto hJ d_Mo_leastSet_34 ?_
          refine z_istore (lv' := [(0, _), (1, _), (2, _), (3, _), (4, _), (5, _)]) hJ d_Mo_leastSet_38 (by decide) rfl ?_
          refine z_iload hJ d_Mo_leastSet_40 4 rfl ?_
          refine z_iload_n hJ d_Mo_leastSet_42 2 rfl ?_
          refine z_iconst (v := (-1)) hJ d_Mo_leastSet_43 (by decide) ?_
          refine z_ixor hJ d_Mo_leastSet_44 ?_
          refine z_iand hJ d_Mo_leastSet_45 ?_
          refine z_c (y := nI (j &&& q_not (q_awk P))) (by rw [znot, zand]) ?_
          have hjl : j &&& q_not (q_awk P) ≤ j := Nat.and_le_left
          refine z_if_ne hJ d_Mo_leastSet_46 (fun c_46 => ?_) (fun c_46 => ?_)
          · skip
            try dsimp only at c_46
            have h_46 : ¬ ((j &&& q_not (q_awk P)) = 0) := by
              have e := nI_eq (a := (j &&& q_not (q_awk P))) (b := 0) (by omega) (by omega)
              exact fun q => c_46 (e.mpr q)
            have hsub : ¬ j &&& q_awk P = j := fun q => h_46 (q_subs2 (by omega) q)
            refine z_iload_n hJ d_Mo_leastSet_69 3 rfl ?_
            refine z_istore_n (lv' := [(0, _), (1, _), (2, _), (3, _), (4, _), (5, _)]) hJ d_Mo_leastSet_70 (by decide) rfl ?_
            refine z_iinc (v := nI (j + 1)) (lv' := [(0, _), (1, _), (2, _), (3, _), (4, _), (5, _)]) hJ d_Mo_leastSet_71 4 rfl (zinc _) (by decide) rfl ?_
            refine z_goto hJ d_Mo_leastSet_74 ?_
            refine z_drop hJ [0, 1, 2, 3, 4] rfl ?_
            have e := ih (by omega)
            rw [q_sm_f (m := (fun s => q_isMet P (s &&& q_awk P) t)) (fun q => hsub q.2.1)] at e
            exact e
          · skip
            try dsimp only at c_46
            have h_46 : (j &&& q_not (q_awk P)) = 0 := by
              have e := nI_eq (a := (j &&& q_not (q_awk P))) (b := 0) (by omega) (by omega)
              exact e.mp c_46
            have hsub : j &&& q_awk P = j := q_subs (by omega) h_46
            refine z_iload hJ d_Mo_leastSet_49 5 rfl ?_
            refine z_if_eq hJ d_Mo_leastSet_51 (fun c => absurd c (by decide)) (fun _ => ?_)
            refine z_aload_n hJ d_Mo_leastSet_54 0 rfl ?_
            refine z_iload hJ d_Mo_leastSet_55 4 rfl ?_
            refine z_iload_n hJ d_Mo_leastSet_57 1 rfl ?_
            refine z_callVi hJ (m_Mo_isMetBy (M := (x0, x1, 127, x3, x4, x5, x6, x7, x8, x9, x10, x11, x12, x13, x14, x15, x16, x17, x18, x19, x20)) hR0 hP hG (by omega) (by omega)) k_Mo_172 zL_mv d_Mo_leastSet_58 hc_Mo 0 rfl rfl rfl (Nat.le_of_ble_eq_true rfl) ⟨by decide, by decide⟩ ?_
            refine zb_eq hJ d_Mo_leastSet_61 (fun c_61 => ?_) (fun c_61 => ?_)
            · skip
              try dsimp only at c_61
              refine z_iload_n hJ d_Mo_leastSet_69 3 rfl ?_
              refine z_istore_n (lv' := [(0, _), (1, _), (2, _), (3, _), (4, _), (5, _)]) hJ d_Mo_leastSet_70 (by decide) rfl ?_
              refine z_iinc (v := nI (j + 1)) (lv' := [(0, _), (1, _), (2, _), (3, _), (4, _), (5, _)]) hJ d_Mo_leastSet_71 4 rfl (zinc _) (by decide) rfl ?_
              refine z_goto hJ d_Mo_leastSet_74 ?_
              refine z_drop hJ [0, 1, 2, 3, 4] rfl ?_
              have e := ih (by omega)
              rw [q_sm_f (m := (fun s => q_isMet P (s &&& q_awk P) t)) (fun q => by have q2 : q_isMet P (j &&& q_awk P) t = true := q.2.2.1; rw [c_61] at q2; exact absurd q2 (by decide))] at e
              exact e
            · skip
              try dsimp only at c_61
              refine z_iload hJ d_Mo_leastSet_64 4 rfl ?_
              refine z_goto hJ d_Mo_leastSet_66 ?_
              refine z_istore_n (lv' := [(0, _), (1, _), (2, _), (3, _), (4, _), (5, _)]) hJ d_Mo_leastSet_70 (by decide) rfl ?_
              refine z_iinc (v := nI (j + 1)) (lv' := [(0, _), (1, _), (2, _), (3, _), (4, _), (5, _)]) hJ d_Mo_leastSet_71 4 rfl (zinc _) (by decide) rfl ?_
              refine z_goto hJ d_Mo_leastSet_74 ?_
              refine z_drop hJ [0, 1, 2, 3, 4] rfl ?_
              have e := ih (by omega)
              have hj0 : j ≠ 0 := fun z => by rw [z, Nat.zero_and, q_met0 hG ht] at c_61; exact absurd c_61 (by decide)
              rw [q_sm_t (m := (fun s => q_isMet P (s &&& q_awk P) t)) ⟨hj0, hsub, c_61, Or.inr (by rw [q_bc_bits (by omega), q_bc_bits (by omega)]; exact c_30)⟩, q_ls_p hj0] at e
              exact e
  exact L10 0 (Nat.zero_le _)
