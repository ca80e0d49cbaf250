set_option maxRecDepth 100000 in
theorem m_Sx_skill {g : Nat → Nat → Nat} {a : Nat → Nat} {f : Nat → Int32} {P K T : RS} {tp : TS} {ss : Nat → SS} {es : Nat → Int32} {kp : Bool} {i u : Int32} (hP : zPi P) : zM g y_Sx_skill b_Sx_skill 4 (some .int) 4 [.ref (a 0), .int i, .int u] (xW g a f P K T tp ss es kp) [.int (p_skill f P T i u).1] (xW g a (p_skill f P T i u).2.1 P K (p_skill f P T i u).2.2 tp ss es kp) := by
  refine zMi (lv := [(0, .ref (a 0)), (1, .int i), (2, .int u)]) (by decide) (Nat.le_of_ble_eq_true rfl) rfl (fun J hJ hR => ?_)
  rcases q_ix_or2 i u (n := P.2.1) (t := P.2.2.1) (Nat.le_trans hP.1 (by decide)) hP.2.1 with ⟨j, k, hj, hk, rfl, rfl⟩ | ⟨hq, hq2⟩ | hq
  · have hj7 := hP.1
    have hj8 := hP.2.1
    have haw := q_awk_31 hP.1
    have has : P.2.2.2.1 < 2 ^ 31 := Nat.lt_trans hP.2.2 (by decide)
    have hq := q_ix_t hj (n := P.2.1) (by omega)
    have hq2 := q_ix_t hk (n := P.2.2.1) (by omega)
    have hcl : (nI j).toNatClampNeg = j := nI_clamp (by omega)
    have hcl2 : (nI k).toNatClampNeg = k := nI_clamp (by omega)
    refine z_aload_n hJ d_Sx_skill_0 0 rfl ?_
    refine z_iload_n hJ d_Sx_skill_1 1 rfl ?_
    refine z_callVi hJ m_Sx_isFellow k_Sx_68 zL.id d_Sx_skill_2 hc_Sx 0 rfl rfl rfl (Nat.le_of_ble_eq_true rfl) ⟨by decide, by decide⟩ ?_
    refine zb_eq hJ d_Sx_skill_5 (fun c_5 => False.elim (by rw [hq] at c_5; exact absurd c_5 (by decide))) (fun c_5 => ?_)
    refine z_aload_n hJ d_Sx_skill_8 0 rfl ?_
    refine z_iload_n hJ d_Sx_skill_9 2 rfl ?_
    refine z_callVi hJ m_Sx_isTask k_Sx_132 zL.id d_Sx_skill_10 hc_Sx 0 rfl rfl rfl (Nat.le_of_ble_eq_true rfl) ⟨by decide, by decide⟩ ?_
    refine zb_ne hJ d_Sx_skill_13 (fun c_13 => ?_) (fun c_13 => False.elim (by rw [hq2] at c_13; exact absurd c_13 (by decide)))
    refine z_aload_n hJ d_Sx_skill_23 0 rfl ?_
    refine z_get hJ d_Sx_skill_24 hc_Sx f_Sx_23 0 rfl rfl (by decide) ?_
    refine z_aload_n hJ d_Sx_skill_27 0 rfl ?_
    refine z_get hJ d_Sx_skill_28 hc_Sx f_Sx_16 0 rfl rfl (by decide) ?_
    refine z_callVv hJ m_Rd_become k_Sx_182 zL_TP d_Sx_skill_31 hc_Rd 20 rfl rfl rfl (Nat.le_of_ble_eq_true rfl) ⟨by decide, by decide⟩ ?_
    refine z_iconst (v := 1) hJ d_Sx_skill_34 (by decide) ?_
    refine z_istore_n (lv' := [(0, _), (1, _), (2, _), (3, _)]) hJ d_Sx_skill_35 (by decide) rfl ?_
    have L36 : ∀ l : Nat, l ≤ 9 → q_find (q_ms P j k) (l + 1) (9 - l) = q_find (q_ms P j k) 1 9 → J (xW g a f P K (P.1, P.2.1, P.2.2.1, P.2.2.2.1, P.2.2.2.2.1, P.2.2.2.2.2.1, P.2.2.2.2.2.2.1, q_s1 (rs P) j l, P.2.2.2.2.2.2.2.2.1, P.2.2.2.2.2.2.2.2.2.1, P.2.2.2.2.2.2.2.2.2.2.1, P.2.2.2.2.2.2.2.2.2.2.2) tp ss es kp) 36 [(0, .ref (a 0)), (1, .int (nI j)), (2, .int (nI k)), (3, .int (nI (l + 1)))] [] := by
      refine zloop (9) (fun l hjN_l ih_l => ?_)
      intro hf
      refine z_iload_n hJ d_Sx_skill_36 3 rfl ?_
      refine z_bipush (v := 9) hJ d_Sx_skill_37 (by decide) ?_
      refine z_icmp_gt hJ d_Sx_skill_39 (fun c_39 => ?_) (fun c_39 => ?_)
      · skip
        try dsimp only at c_39
        have h_39 : 9 < (l + 1) := by
          have e := nI_ltI (a := 9) (b := (l + 1)) (by omega) (by omega)
          exact e.mp c_39
        obtain rfl : l = 9 := by omega
        refine z_aload_n hJ d_Sx_skill_78 0 rfl ?_
        refine z_ldc hJ d_Sx_skill_79 c_Sx_186 ?_
        refine z_callVi hJ m_Sx_tell_3 k_Sx_55 zL.id d_Sx_skill_81 hc_Sx 0 rfl rfl rfl (Nat.le_of_ble_eq_true rfl) ⟨by decide, by decide⟩ ?_
        exact z_ri hR d_Sx_skill_84 (by
          have e : q_find (q_ms P j k) 1 9 = none := by rw [← hf]; rfl
          simp [p_skill, hq, hq2, hcl, hcl2, e, q_setS]) (by
          have e : q_find (q_ms P j k) 1 9 = none := by rw [← hf]; rfl
          simp [p_skill, hq, hq2, hcl, hcl2, e, q_setS]; try rfl)
      · skip
        try dsimp only at c_39
        have h_39 : ¬ (9 < (l + 1)) := by
          have e := nI_ltI (a := 9) (b := (l + 1)) (by omega) (by omega)
          exact fun q => c_39 (e.mpr q)
        refine z_aload_n hJ d_Sx_skill_42 0 rfl ?_
        refine z_get hJ d_Sx_skill_43 hc_Sx f_Sx_23 0 rfl rfl (by decide) ?_
        refine z_get hJ d_Sx_skill_46 hc_Rd f_Sx_80 20 rfl rfl (by decide) ?_
        refine z_iload_n hJ d_Sx_skill_49 1 rfl ?_
        refine z_iload_n hJ d_Sx_skill_50 3 rfl ?_
        refine z_iast (w' := xW g a f P K (P.1, P.2.1, P.2.2.1, P.2.2.2.1, P.2.2.2.2.1, P.2.2.2.2.2.1, P.2.2.2.2.2.2.1, upd (q_s1 (rs P) j l) (j) (nI (l + 1)), P.2.2.2.2.2.2.2.2.1, P.2.2.2.2.2.2.2.2.2.1, P.2.2.2.2.2.2.2.2.2.2.1, P.2.2.2.2.2.2.2.2.2.2.2) tp ss es kp) hJ d_Sx_skill_51 24 (j) rfl rfl (by omega) (by decide) rfl ?_
        refine z_w (w' := xW g a f P K (P.1, P.2.1, P.2.2.1, P.2.2.2.1, P.2.2.2.2.1, P.2.2.2.2.2.1, P.2.2.2.2.2.2.1, upd (rs P) j (nI (l + 1)), P.2.2.2.2.2.2.2.2.1, P.2.2.2.2.2.2.2.2.2.1, P.2.2.2.2.2.2.2.2.2.2.1, P.2.2.2.2.2.2.2.2.2.2.2) tp ss es kp) (by rw [q_s1_s]) ?_
        refine z_aload_n hJ d_Sx_skill_52 0 rfl ?_
        refine z_get hJ d_Sx_skill_53 hc_Sx f_Sx_23 0 rfl rfl (by decide) ?_
        refine z_iload_n hJ d_Sx_skill_56 2 rfl ?_
        refine z_aload_n hJ d_Sx_skill_57 0 rfl ?_
        refine z_get hJ d_Sx_skill_58 hc_Sx f_Sx_23 0 rfl rfl (by decide) ?_
        refine z_callVi hJ (m_Rd_awakeSet (P := q_setS P j (nI (l + 1))) hP.1) k_Sx_90 zL_T d_Sx_skill_61 hc_Rd 20 rfl rfl rfl (Nat.le_of_ble_eq_true rfl) ⟨by decide, by decide⟩ ?_
        refine z_callVi hJ (m_Rd_isMet (P := q_setS P j (nI (l + 1))) hP.1 (by omega) haw) k_Sx_153 zL_T d_Sx_skill_64 hc_Rd 20 rfl rfl rfl (Nat.le_of_ble_eq_true rfl) ⟨by decide, by decide⟩ ?_
        refine zb_eq hJ d_Sx_skill_67 (fun c_67 => ?_) (fun c_67 => ?_)
        · skip
          try dsimp only at c_67
          refine z_iinc (v := nI ((l + 1) + 1)) (lv' := [(0, _), (1, _), (2, _), (3, _)]) hJ d_Sx_skill_72 3 rfl (zinc _) (by decide) rfl ?_
          refine z_goto hJ d_Sx_skill_75 ?_
          exact ih_l (by omega) (by
            rw [← hf, show 9 - l = (9 - (l + 1)) + 1 by omega, q_find, q_ms, c_67]; rfl)
        · skip
          try dsimp only at c_67
          refine z_iload_n hJ d_Sx_skill_70 3 rfl ?_
          exact z_ri hR d_Sx_skill_71 (by
            have e : q_find (q_ms P j k) 1 9 = some (l + 1) := by rw [← hf, show 9 - l = (8 - l) + 1 by omega, q_find, q_ms, c_67]; rfl
            simp [p_skill, hq, hq2, hcl, hcl2, e, q_setS]) (by
            have e : q_find (q_ms P j k) 1 9 = some (l + 1) := by rw [← hf, show 9 - l = (8 - l) + 1 by omega, q_find, q_ms, c_67]; rfl
            simp [p_skill, hq, hq2, hcl, hcl2, e, q_setS]; try rfl)
    exact L36 0 (Nat.zero_le _) rfl
  · have hcase := hq2
    refine z_aload_n hJ d_Sx_skill_0 0 rfl ?_
    refine z_iload_n hJ d_Sx_skill_1 1 rfl ?_
    refine z_callVi hJ m_Sx_isFellow k_Sx_68 zL.id d_Sx_skill_2 hc_Sx 0 rfl rfl rfl (Nat.le_of_ble_eq_true rfl) ⟨by decide, by decide⟩ ?_
    refine zb_eq hJ d_Sx_skill_5 (fun c_5 => False.elim (by rw [hq] at c_5; exact absurd c_5 (by decide))) (fun c_5 => ?_)
    refine z_aload_n hJ d_Sx_skill_8 0 rfl ?_
    refine z_iload_n hJ d_Sx_skill_9 2 rfl ?_
    refine z_callVi hJ m_Sx_isTask k_Sx_132 zL.id d_Sx_skill_10 hc_Sx 0 rfl rfl rfl (Nat.le_of_ble_eq_true rfl) ⟨by decide, by decide⟩ ?_
    refine zb_ne hJ d_Sx_skill_13 (fun c_13 => False.elim (by rw [hq2] at c_13; exact absurd c_13 (by decide))) (fun c_13 => ?_)
    refine z_aload_n hJ d_Sx_skill_16 0 rfl ?_
    refine z_ldc hJ d_Sx_skill_17 c_Sx_54 ?_
    refine z_callVi hJ m_Sx_tell_0 k_Sx_55 zL.id d_Sx_skill_19 hc_Sx 0 rfl rfl rfl (Nat.le_of_ble_eq_true rfl) ⟨by decide, by decide⟩ ?_
    exact z_ri hR d_Sx_skill_22 (by simp [p_skill, hq, hq2, c_5, c_13]; try rfl) (by simp [p_skill, hq, hq2, c_5, c_13])
  · skip
    refine z_aload_n hJ d_Sx_skill_0 0 rfl ?_
    refine z_iload_n hJ d_Sx_skill_1 1 rfl ?_
    refine z_callVi hJ m_Sx_isFellow k_Sx_68 zL.id d_Sx_skill_2 hc_Sx 0 rfl rfl rfl (Nat.le_of_ble_eq_true rfl) ⟨by decide, by decide⟩ ?_
    refine zb_eq hJ d_Sx_skill_5 (fun c_5 => ?_) (fun c_5 => False.elim (by rw [hq] at c_5; exact absurd c_5 (by decide)))
    refine z_aload_n hJ d_Sx_skill_16 0 rfl ?_
    refine z_ldc hJ d_Sx_skill_17 c_Sx_54 ?_
    refine z_callVi hJ m_Sx_tell_0 k_Sx_55 zL.id d_Sx_skill_19 hc_Sx 0 rfl rfl rfl (Nat.le_of_ble_eq_true rfl) ⟨by decide, by decide⟩ ?_
    exact z_ri hR d_Sx_skill_22 (by simp [p_skill, hq, c_5]; try rfl) (by simp [p_skill, hq, c_5])
set_option maxRecDepth 100000 in
theorem m_Sx_weighSets {g : Nat → Nat → Nat} {a : Nat → Nat} {f : Nat → Int32} {P K T : RS} {tp : TS} {ss : Nat → SS} {es : Nat → Int32} {kp : Bool}  (hP : zPi P) : zM g y_Sx_weighSets b_Sx_weighSets 4 none 5 [.ref (a 0)] (xW g a f P K T tp ss es kp) [] (xW g a f P K T tp ss (q_wgA P es) kp) := by
  have hj7 := hP.1
  have hj8 := hP.2.1
  have haw := q_awk_31 hP.1
  have has : P.2.2.2.1 < 2 ^ 31 := Nat.lt_trans hP.2.2 (by decide)
  have hall := q_all_127 hP.1
  refine zMv (lv := [(0, .ref (a 0))]) (by decide) (Nat.le_of_ble_eq_true rfl) rfl (fun J hJ hR => ?_)
  refine z_aload_n hJ d_Sx_weighSets_0 0 rfl ?_
  refine z_get hJ d_Sx_weighSets_1 hc_Sx f_Sx_16 0 rfl rfl (by decide) ?_
  refine z_callVi hJ (m_Rd_awakeSet hP.1) k_Sx_90 zL_P d_Sx_weighSets_4 hc_Rd 2 rfl rfl rfl (Nat.le_of_ble_eq_true rfl) ⟨by decide, by decide⟩ ?_
  refine z_istore_n (lv' := [(0, _), (1, _)]) hJ d_Sx_weighSets_7 (by decide) rfl ?_
  refine z_aload_n hJ d_Sx_weighSets_8 0 rfl ?_
  refine z_get hJ d_Sx_weighSets_9 hc_Sx f_Sx_16 0 rfl rfl (by decide) ?_
  refine z_callVi hJ (m_Rd_allSet hP.1) k_Sx_214 zL_P d_Sx_weighSets_12 hc_Rd 2 rfl rfl rfl (Nat.le_of_ble_eq_true rfl) ⟨by decide, by decide⟩ ?_
  refine z_istore_n (lv' := [(0, _), (1, _), (2, _)]) hJ d_Sx_weighSets_15 (by decide) rfl ?_
  refine z_iconst (v := 0) hJ d_Sx_weighSets_16 (by decide) ?_
  refine z_istore_n (lv' := [(0, _), (1, _), (2, _), (3, _)]) hJ d_Sx_weighSets_17 (by decide) rfl ?_
  have L18 : ∀ j : Nat, j ≤ q_all P + 1 → J (xW g a f P K T tp ss (q_wg P es j) kp) 18 [(0, .ref (a 0)), (1, .int (nI (q_awk P))), (2, .int (nI (q_all P))), (3, .int (nI j))] [] := by
    refine zloop (q_all P + 1) (fun j hjN ih => ?_)
    refine z_iload_n hJ d_Sx_weighSets_18 3 rfl ?_
    refine z_iload_n hJ d_Sx_weighSets_19 2 rfl ?_
    refine z_icmp_gt hJ d_Sx_weighSets_20 (fun c_20 => ?_) (fun c_20 => ?_)
    · skip
      have h_20 : (q_all P) < j := by
        have e := nI_ltI (a := (q_all P)) (b := j) (by omega) (by omega)
        exact e.mp c_20
      obtain rfl : j = q_all P + 1 := by omega
      exact z_rv hR d_Sx_weighSets_45 (by rw [q_wgA, ← q_all1])
    · skip
      have h_20 : ¬ ((q_all P) < j) := by
        have e := nI_ltI (a := (q_all P)) (b := j) (by omega) (by omega)
        exact fun q => c_20 (e.mpr q)
      refine z_aload_n hJ d_Sx_weighSets_23 0 rfl ?_
      refine z_get hJ d_Sx_weighSets_24 hc_Sx f_Sx_40 0 rfl rfl (by decide) ?_
      refine z_iload_n hJ d_Sx_weighSets_27 3 rfl ?_
      refine z_aload_n hJ d_Sx_weighSets_28 0 rfl ?_
      refine z_get hJ d_Sx_weighSets_29 hc_Sx f_Sx_16 0 rfl rfl (by decide) ?_
      refine z_iload_n hJ d_Sx_weighSets_32 3 rfl ?_
      refine z_iload_n hJ d_Sx_weighSets_33 1 rfl ?_
      refine z_iand hJ d_Sx_weighSets_34 ?_
      refine z_c (y := nI (j &&& q_awk P)) (zand _ _) ?_
      refine z_callVi hJ (m_Rd_earned (aw := j &&& q_awk P) hP.1 hP.2.1 (Nat.lt_of_le_of_lt Nat.and_le_left (by omega))) k_Sx_173 zL_P d_Sx_weighSets_35 hc_Rd 2 rfl rfl rfl (Nat.le_of_ble_eq_true rfl) ⟨by decide, by decide⟩ ?_
      refine z_iast (w' := xW g a f P K T tp ss (upd (q_wg P es j) (j) (q_earn P (j &&& q_awk P))) kp) hJ d_Sx_weighSets_38 40 (j) rfl rfl (by omega) (by decide) rfl ?_
      refine z_w (w' := xW g a f P K T tp ss (q_wg P es (j + 1)) kp) (by rw [q_wg_s]) ?_
      refine z_iinc (v := nI (j + 1)) (lv' := [(0, _), (1, _), (2, _), (3, _)]) hJ d_Sx_weighSets_39 3 rfl (zinc _) (by decide) rfl ?_
      refine z_goto hJ d_Sx_weighSets_42 ?_
      exact ih (by omega)
  have e := L18 0 (Nat.zero_le _)
  rw [q_wg_0] at e
  exact e
set_option maxRecDepth 100000 in
theorem m_Sx_shareOf {g : Nat → Nat → Nat} {a : Nat → Nat} {f : Nat → Int32} {P K T : RS} {tp : TS} {ss : Nat → SS} {es : Nat → Int32} {kp : Bool} {i : Nat} (hP : zPi P) (hi : i < P.2.1) : zM g y_Sx_shareOf b_Sx_shareOf 10 (some .long) 2 [.ref (a 0), .int (nI i)] (xW g a f P K T tp ss es kp) [.long (q_shr es P.2.1 i)] (xW g a f P K T tp ss es kp) := by
  have hj7 := hP.1
  have hj8 := hP.2.1
  have haw := q_awk_31 hP.1
  have has : P.2.2.2.1 < 2 ^ 31 := Nat.lt_trans hP.2.2 (by decide)
  have hall := q_all_127 hP.1
  have ha1 := q_all1 P
  refine zMl (lv := [(0, .ref (a 0)), (1, .int (nI i))]) (by decide) (Nat.le_of_ble_eq_true rfl) rfl (fun J hJ hR => ?_)
  refine z_aload_n hJ d_Sx_shareOf_0 0 rfl ?_
  refine z_get hJ d_Sx_shareOf_1 hc_Sx f_Sx_16 0 rfl rfl (by decide) ?_
  refine z_get hJ d_Sx_shareOf_4 hc_Rd f_Sx_59 2 rfl rfl (by decide) ?_
  refine z_istore_n (lv' := [(0, _), (1, _), (2, _)]) hJ d_Sx_shareOf_7 (by decide) rfl ?_
  refine z_aload_n hJ d_Sx_shareOf_8 0 rfl ?_
  refine z_get hJ d_Sx_shareOf_9 hc_Sx f_Sx_16 0 rfl rfl (by decide) ?_
  refine z_callVi hJ (m_Rd_allSet hP.1) k_Sx_214 zL_P d_Sx_shareOf_12 hc_Rd 2 rfl rfl rfl (Nat.le_of_ble_eq_true rfl) ⟨by decide, by decide⟩ ?_
  refine z_istore_n (lv' := [(0, _), (1, _), (2, _), (3, _)]) hJ d_Sx_shareOf_15 (by decide) rfl ?_
  refine z_lconst (v := 0) hJ d_Sx_shareOf_16 (by decide) ?_
  refine z_lstore (lv' := [(0, _), (1, _), (2, _), (3, _), (4, _)]) hJ d_Sx_shareOf_17 (by decide) rfl ?_
  refine z_iconst (v := 0) hJ d_Sx_shareOf_19 (by decide) ?_
  refine z_istore (lv' := [(0, _), (1, _), (2, _), (3, _), (4, _), (6, _)]) hJ d_Sx_shareOf_20 (by decide) rfl ?_
  have L22 : ∀ j : Nat, j ≤ q_all P + 1 → J (xW g a f P K T tp ss es kp) 22 [(0, .ref (a 0)), (1, .int (nI i)), (2, .int (nI P.2.1)), (3, .int (nI (q_all P))), (4, .long (q_sh es P.2.1 i j)), (6, .int (nI j))] [] := by
    refine zloop (q_all P + 1) (fun j hjN ih => ?_)
    refine z_iload hJ d_Sx_shareOf_22 5 rfl ?_
    refine z_iload_n hJ d_Sx_shareOf_24 3 rfl ?_
    refine z_icmp_gt hJ d_Sx_shareOf_25 (fun c_25 => ?_) (fun c_25 => ?_)
    · skip
      have h_25 : (q_all P) < j := by
        have e := nI_ltI (a := (q_all P)) (b := j) (by omega) (by omega)
        exact e.mp c_25
      obtain rfl : j = q_all P + 1 := by omega
      refine z_lload hJ d_Sx_shareOf_102 4 rfl ?_
      refine z_gs5 hJ d_Sx_shareOf_104 f_Sx_220 ?_
      refine z_iload_n hJ d_Sx_shareOf_107 2 rfl ?_
      refine z_ti5 hJ d_Sx_shareOf_108 (P.2.1) rfl (by omega) ?_
      refine z_i2l hJ d_Sx_shareOf_109 ?_
      refine z_lmul hJ d_Sx_shareOf_110 ?_
      exact z_rl hR d_Sx_shareOf_111 (by rw [q_shr, ← ha1]) rfl
    · skip
      have h_25 : ¬ ((q_all P) < j) := by
        have e := nI_ltI (a := (q_all P)) (b := j) (by omega) (by omega)
        exact fun q => c_25 (e.mpr q)
      refine z_iload hJ d_Sx_shareOf_28 5 rfl ?_
      refine z_iload_n hJ d_Sx_shareOf_30 1 rfl ?_
      refine z_callSi hJ (m_Sx_has (a := j) (by omega) (by omega)) k_Sx_86 zL.nil d_Sx_shareOf_31 rfl rfl (Nat.le_of_ble_eq_true rfl) ⟨by decide, by decide⟩ ?_
      refine zb_eq hJ d_Sx_shareOf_34 (fun c_34 => ?_) (fun c_34 => ?_)
      · skip
        refine z_iload hJ d_Sx_shareOf_40 5 rfl ?_
        refine z_callSi hJ m_In_bitCount k_Sx_194 zL.nil d_Sx_shareOf_42 rfl rfl (Nat.le_of_ble_eq_true rfl) ⟨by decide, by decide⟩ ?_
        have hb := q_bits_lt hP.1 hi (s := j) (by omega) c_34
        refine z_c (q_bc_bits (by omega)) ?_
        refine z_istore (lv' := [(0, _), (1, _), (2, _), (3, _), (4, _), (6, _), (7, _)]) hJ d_Sx_shareOf_45 (by decide) rfl ?_
        refine z_gs4 hJ d_Sx_shareOf_47 f_Sx_217 ?_
        refine z_iload hJ d_Sx_shareOf_50 6 rfl ?_
        refine z_ti4 hJ d_Sx_shareOf_52 ((q_bits j)) rfl (by omega) ?_
        refine z_i2l hJ d_Sx_shareOf_53 ?_
        refine z_gs4 hJ d_Sx_shareOf_54 f_Sx_217 ?_
        refine z_iload_n hJ d_Sx_shareOf_57 2 rfl ?_
        refine z_iconst (v := 1) hJ d_Sx_shareOf_58 (by decide) ?_
        refine z_isub hJ d_Sx_shareOf_59 ?_
        refine z_c (y := nI (P.2.1 - 1)) (zsub1 (by omega)) ?_
        refine z_iload hJ d_Sx_shareOf_60 6 rfl ?_
        refine z_isub hJ d_Sx_shareOf_62 ?_
        refine z_c (y := nI (P.2.1 - 1 - q_bits j)) (pk_sub (by omega)) ?_
        refine z_ti4 hJ d_Sx_shareOf_63 ((P.2.1 - 1 - q_bits j)) rfl (by omega) ?_
        refine z_i2l hJ d_Sx_shareOf_64 ?_
        refine z_lmul hJ d_Sx_shareOf_65 ?_
        refine z_lstore (lv' := [(0, _), (1, _), (2, _), (3, _), (4, _), (6, _), (7, _), (8, _)]) hJ d_Sx_shareOf_66 (by decide) rfl ?_
        refine z_lload hJ d_Sx_shareOf_68 4 rfl ?_
        refine z_lload hJ d_Sx_shareOf_70 7 rfl ?_
        refine z_aload_n hJ d_Sx_shareOf_72 0 rfl ?_
        refine z_get hJ d_Sx_shareOf_73 hc_Sx f_Sx_40 0 rfl rfl (by decide) ?_
        refine z_iload hJ d_Sx_shareOf_76 5 rfl ?_
        refine z_iconst (v := 1) hJ d_Sx_shareOf_78 (by decide) ?_
        refine z_iload_n hJ d_Sx_shareOf_79 1 rfl ?_
        refine z_ishl hJ d_Sx_shareOf_80 ?_
        refine z_ior hJ d_Sx_shareOf_81 ?_
        refine z_c (y := nI (j ||| 2 ^ i)) (by rw [zshl1 (by omega), zor]) ?_
        refine z_iald hJ d_Sx_shareOf_82 40 ((j ||| 2 ^ i)) rfl rfl (Nat.or_lt_two_pow (n := 7) (by omega) (Nat.pow_lt_pow_right (by decide) (by omega))) (by decide) ?_
        refine z_aload_n hJ d_Sx_shareOf_83 0 rfl ?_
        refine z_get hJ d_Sx_shareOf_84 hc_Sx f_Sx_40 0 rfl rfl (by decide) ?_
        refine z_iload hJ d_Sx_shareOf_87 5 rfl ?_
        refine z_iald hJ d_Sx_shareOf_89 40 (j) rfl rfl (by omega) (by decide) ?_
        refine z_isub hJ d_Sx_shareOf_90 ?_
        refine z_i2l hJ d_Sx_shareOf_91 ?_
        refine z_lmul hJ d_Sx_shareOf_92 ?_
        refine z_ladd hJ d_Sx_shareOf_93 ?_
        refine z_lstore (lv' := [(0, _), (1, _), (2, _), (3, _), (4, _), (6, _), (7, _), (8, _)]) hJ d_Sx_shareOf_94 (by decide) rfl ?_
        refine z_iinc (v := nI (j + 1)) (lv' := [(0, _), (1, _), (2, _), (3, _), (4, _), (6, _), (7, _), (8, _)]) hJ d_Sx_shareOf_96 5 rfl (zinc _) (by decide) rfl ?_
        refine z_goto hJ d_Sx_shareOf_99 ?_
        refine z_drop hJ [0, 1, 2, 3, 4, 5] rfl ?_
        have e := ih (by omega)
        rw [q_sh_f c_34] at e
        exact e
      · skip
        refine z_goto hJ d_Sx_shareOf_37 ?_
        refine z_iinc (v := nI (j + 1)) (lv' := [(0, _), (1, _), (2, _), (3, _), (4, _), (6, _)]) hJ d_Sx_shareOf_96 5 rfl (zinc _) (by decide) rfl ?_
        refine z_goto hJ d_Sx_shareOf_99 ?_
        have e := ih (by omega)
        rw [q_sh_t c_34] at e
        exact e
  exact L22 0 (Nat.zero_le _)
set_option maxRecDepth 100000 in
theorem m_Sx_share {g : Nat → Nat → Nat} {a : Nat → Nat} {f : Nat → Int32} {P K T : RS} {tp : TS} {ss : Nat → SS} {es : Nat → Int32} {kp : Bool} {i : Int32} (hP : zPi P) : zM g y_Sx_share b_Sx_share 2 (some .long) 6 [.ref (a 0), .int i] (xW g a f P K T tp ss es kp) [.long (p_share f P es i).1] (xW g a (p_share f P es i).2.1 P K T tp ss (p_share f P es i).2.2 kp) := by
  refine zMl (lv := [(0, .ref (a 0)), (1, .int i)]) (by decide) (Nat.le_of_ble_eq_true rfl) rfl (fun J hJ hR => ?_)
  rcases q_ix_or i (n := P.2.1) (by first | exact Nat.le_trans hP.1 (by decide) | exact hP.2.1) with ⟨j, hj, rfl⟩ | hq
  · have hj7 := hP.1
    have hj8 := hP.2.1
    have haw := q_awk_31 hP.1
    have has : P.2.2.2.1 < 2 ^ 31 := Nat.lt_trans hP.2.2 (by decide)
    have hq := q_ix_t hj (n := P.2.1) (by omega)
    have hcl : (nI j).toNatClampNeg = j := nI_clamp (by omega)
    refine z_aload_n hJ d_Sx_share_0 0 rfl ?_
    refine z_iload_n hJ d_Sx_share_1 1 rfl ?_
    refine z_callVi hJ m_Sx_isFellow k_Sx_68 zL.id d_Sx_share_2 hc_Sx 0 rfl rfl rfl (Nat.le_of_ble_eq_true rfl) ⟨by decide, by decide⟩ ?_
    refine zb_ne hJ d_Sx_share_5 (fun c_5 => ?_) (fun c_5 => False.elim (by rw [hq] at c_5; exact absurd c_5 (by decide)))
    refine z_aload_n hJ d_Sx_share_16 0 rfl ?_
    refine z_callVv hJ (m_Sx_weighSets hP) k_Sx_207 zL.id d_Sx_share_17 hc_Sx 0 rfl rfl rfl (Nat.le_of_ble_eq_true rfl) ⟨by decide, by decide⟩ ?_
    refine z_aload_n hJ d_Sx_share_20 0 rfl ?_
    refine z_iload_n hJ d_Sx_share_21 1 rfl ?_
    refine z_callVl hJ (m_Sx_shareOf hP hj) k_Sx_210 zL.id d_Sx_share_22 hc_Sx 0 rfl rfl rfl (Nat.le_of_ble_eq_true rfl) ⟨by decide, by decide⟩ ?_
    exact z_rl hR d_Sx_share_25 (by simp [p_share, hq, hcl, c_5]; try rfl) (by simp [p_share, hq, hcl, c_5])
  · skip
    refine z_aload_n hJ d_Sx_share_0 0 rfl ?_
    refine z_iload_n hJ d_Sx_share_1 1 rfl ?_
    refine z_callVi hJ m_Sx_isFellow k_Sx_68 zL.id d_Sx_share_2 hc_Sx 0 rfl rfl rfl (Nat.le_of_ble_eq_true rfl) ⟨by decide, by decide⟩ ?_
    refine zb_ne hJ d_Sx_share_5 (fun c_5 => False.elim (by rw [hq] at c_5; exact absurd c_5 (by decide))) (fun c_5 => ?_)
    refine z_aload_n hJ d_Sx_share_8 0 rfl ?_
    refine z_ldc hJ d_Sx_share_9 c_Sx_54 ?_
    refine z_callVi hJ m_Sx_tell_0 k_Sx_55 zL.id d_Sx_share_11 hc_Sx 0 rfl rfl rfl (Nat.le_of_ble_eq_true rfl) ⟨by decide, by decide⟩ ?_
    refine z_i2l hJ d_Sx_share_14 ?_
    exact z_rl hR d_Sx_share_15 (by simp [p_share, hq, c_5]; try rfl) (by simp [p_share, hq, c_5])
set_option maxRecDepth 100000 in
theorem m_Sx_first {g : Nat → Nat → Nat} {a : Nat → Nat} {f : Nat → Int32} {P K T : RS} {tp : TS} {ss : Nat → SS} {es : Nat → Int32} {kp : Bool}  (hP : zPi P) : zM g y_Sx_first b_Sx_first 3 (some .int) 6 [.ref (a 0)] (xW g a f P K T tp ss es kp) [.int (p_first f P es).1] (xW g a (p_first f P es).2.1 P K T tp ss (p_first f P es).2.2 kp) := by
  have hj7 := hP.1
  have hj8 := hP.2.1
  have haw := q_awk_31 hP.1
  have has : P.2.2.2.1 < 2 ^ 31 := Nat.lt_trans hP.2.2 (by decide)
  refine zMi (lv := [(0, .ref (a 0))]) (by decide) (Nat.le_of_ble_eq_true rfl) rfl (fun J hJ hR => ?_)
  refine z_aload_n hJ d_Sx_first_0 0 rfl ?_
  refine z_get hJ d_Sx_first_1 hc_Sx f_Sx_16 0 rfl rfl (by decide) ?_
  refine z_get hJ d_Sx_first_4 hc_Rd f_Sx_59 2 rfl rfl (by decide) ?_
  refine z_if_ne hJ d_Sx_first_7 (fun c_7 => ?_) (fun c_7 => ?_)
  · skip
    have h_7 : ¬ (P.2.1 = 0) := by
      have e := nI_eq (a := P.2.1) (b := 0) (by omega) (by omega)
      exact fun q => c_7 (e.mpr q)
    refine z_aload_n hJ d_Sx_first_17 0 rfl ?_
    refine z_callVv hJ (m_Sx_weighSets hP) k_Sx_207 zL.id d_Sx_first_18 hc_Sx 0 rfl rfl rfl (Nat.le_of_ble_eq_true rfl) ⟨by decide, by decide⟩ ?_
    refine z_iconst (v := 0) hJ d_Sx_first_21 (by decide) ?_
    refine z_istore_n (lv' := [(0, _), (1, _)]) hJ d_Sx_first_22 (by decide) rfl ?_
    refine z_iconst (v := 1) hJ d_Sx_first_23 (by decide) ?_
    refine z_istore_n (lv' := [(0, _), (1, _), (2, _)]) hJ d_Sx_first_24 (by decide) rfl ?_
    have L25 : ∀ j : Nat, j ≤ P.2.1 → 1 ≤ j → J (xW g a f P K T tp ss (q_wgA P es) kp) 25 [(0, .ref (a 0)), (1, .int (nI (q_ft (q_shr (q_wgA P es) P.2.1) j))), (2, .int (nI j))] [] := by
      refine zloop (P.2.1) (fun j hjN ih => ?_)
      intro hj1
      obtain ⟨j0, hj0⟩ : ∃ j0, j = j0 + 1 := ⟨j - 1, by omega⟩
      have hft : q_ft (q_shr (q_wgA P es) P.2.1) j < j := by
        rw [hj0]
        have := q_ft_lt (q_shr (q_wgA P es) P.2.1) j0
        omega
      refine z_iload_n hJ d_Sx_first_25 2 rfl ?_
      refine z_aload_n hJ d_Sx_first_26 0 rfl ?_
      refine z_get hJ d_Sx_first_27 hc_Sx f_Sx_16 0 rfl rfl (by decide) ?_
      refine z_get hJ d_Sx_first_30 hc_Rd f_Sx_59 2 rfl rfl (by decide) ?_
      refine z_icmp_ge hJ d_Sx_first_33 (fun c_33 => ?_) (fun c_33 => ?_)
      · skip
        have h_33 : P.2.1 ≤ j := by
          have e := nI_leI (a := P.2.1) (b := j) (by omega) (by omega)
          exact e.mp c_33
        obtain rfl : j = P.2.1 := by omega
        refine z_iload_n hJ d_Sx_first_58 1 rfl ?_
        exact z_ri hR d_Sx_first_59 (by simp [p_first, h_7, c_7, c_33]; try rfl) (by simp [p_first, h_7, c_7, c_33])
      · skip
        have h_33 : ¬ (P.2.1 ≤ j) := by
          have e := nI_leI (a := P.2.1) (b := j) (by omega) (by omega)
          exact fun q => c_33 (e.mpr q)
        refine z_aload_n hJ d_Sx_first_36 0 rfl ?_
        refine z_iload_n hJ d_Sx_first_37 2 rfl ?_
        refine z_callVl hJ (m_Sx_shareOf hP (i := j) (by omega)) k_Sx_210 zL.id d_Sx_first_38 hc_Sx 0 rfl rfl rfl (Nat.le_of_ble_eq_true rfl) ⟨by decide, by decide⟩ ?_
        refine z_aload_n hJ d_Sx_first_41 0 rfl ?_
        refine z_iload_n hJ d_Sx_first_42 1 rfl ?_
        refine z_callVl hJ (m_Sx_shareOf hP (i := q_ft (q_shr (q_wgA P es) P.2.1) j) (by omega)) k_Sx_210 zL.id d_Sx_first_43 hc_Sx 0 rfl rfl rfl (Nat.le_of_ble_eq_true rfl) ⟨by decide, by decide⟩ ?_
        refine z_lcmp hJ d_Sx_first_46 ?_
        refine z_if_le hJ d_Sx_first_47 (fun c_47 => ?_) (fun c_47 => ?_)
        · skip
          refine z_iinc (v := nI (j + 1)) (lv' := [(0, _), (1, _), (2, _)]) hJ d_Sx_first_52 2 rfl (zinc _) (by decide) rfl ?_
          refine z_goto hJ d_Sx_first_55 ?_
          have e := ih (by omega) (by omega)
          rw [q_ft_f c_47] at e
          exact e
        · skip
          refine z_iload_n hJ d_Sx_first_50 2 rfl ?_
          refine z_istore_n (lv' := [(0, _), (1, _), (2, _)]) hJ d_Sx_first_51 (by decide) rfl ?_
          refine z_iinc (v := nI (j + 1)) (lv' := [(0, _), (1, _), (2, _)]) hJ d_Sx_first_52 2 rfl (zinc _) (by decide) rfl ?_
          refine z_goto hJ d_Sx_first_55 ?_
          have e := ih (by omega) (by omega)
          rw [q_ft_t c_47] at e
          exact e
    have e := L25 1 (by omega) (Nat.le_refl 1)
    rw [q_ft_1] at e
    exact e
  · skip
    have h_7 : P.2.1 = 0 := by
      have e := nI_eq (a := P.2.1) (b := 0) (by omega) (by omega)
      exact e.mp c_7
    refine z_aload_n hJ d_Sx_first_10 0 rfl ?_
    refine z_ldc hJ d_Sx_first_11 c_Sx_186 ?_
    refine z_callVi hJ m_Sx_tell_3 k_Sx_55 zL.id d_Sx_first_13 hc_Sx 0 rfl rfl rfl (Nat.le_of_ble_eq_true rfl) ⟨by decide, by decide⟩ ?_
    exact z_ri hR d_Sx_first_16 (by simp [p_first, h_7, c_7]; try rfl) (by simp [p_first, h_7, c_7])
set_option maxRecDepth 100000 in
theorem m_Sx_sets {g : Nat → Nat → Nat} {a : Nat → Nat} {f : Nat → Int32} {P K T : RS} {tp : TS} {ss : Nat → SS} {es : Nat → Int32} {kp : Bool} {v : Int32} (hP : zPi P) : zM g y_Sx_sets b_Sx_sets 6 (some .int) 5 [.ref (a 0), .int v] (xW g a f P K T tp ss es kp) [.int (p_sets f P v).1] (xW g a (p_sets f P v).2 P K T tp ss es kp) := by
  have hj7 := hP.1
  have hj8 := hP.2.1
  have haw := q_awk_31 hP.1
  have has : P.2.2.2.1 < 2 ^ 31 := Nat.lt_trans hP.2.2 (by decide)
  have hall := q_all_127 hP.1
  have ha1 := q_all1 P
  refine zMi (lv := [(0, .ref (a 0)), (1, .int v)]) (by decide) (Nat.le_of_ble_eq_true rfl) rfl (fun J hJ hR => ?_)
  refine z_iload_n hJ d_Sx_sets_0 1 rfl ?_
  refine z_iconst (v := 0) hJ d_Sx_sets_1 (by decide) ?_
  refine z_sipush (v := 999) hJ d_Sx_sets_2 (by decide) ?_
  refine z_callSi hJ m_Sx_isWithin k_Sx_110 zL.nil d_Sx_sets_5 rfl rfl (Nat.le_of_ble_eq_true rfl) ⟨by decide, by decide⟩ ?_
  refine zb_ne hJ d_Sx_sets_8 (fun c_8 => ?_) (fun c_8 => ?_)
  · skip
    refine z_aload_n hJ d_Sx_sets_18 0 rfl ?_
    refine z_get hJ d_Sx_sets_19 hc_Sx f_Sx_16 0 rfl rfl (by decide) ?_
    refine z_callVi hJ (m_Rd_awakeSet hP.1) k_Sx_90 zL_P d_Sx_sets_22 hc_Rd 2 rfl rfl rfl (Nat.le_of_ble_eq_true rfl) ⟨by decide, by decide⟩ ?_
    refine z_istore_n (lv' := [(0, _), (1, _), (2, _)]) hJ d_Sx_sets_25 (by decide) rfl ?_
    refine z_aload_n hJ d_Sx_sets_26 0 rfl ?_
    refine z_get hJ d_Sx_sets_27 hc_Sx f_Sx_16 0 rfl rfl (by decide) ?_
    refine z_callVi hJ (m_Rd_allSet hP.1) k_Sx_214 zL_P d_Sx_sets_30 hc_Rd 2 rfl rfl rfl (Nat.le_of_ble_eq_true rfl) ⟨by decide, by decide⟩ ?_
    refine z_istore_n (lv' := [(0, _), (1, _), (2, _), (3, _)]) hJ d_Sx_sets_33 (by decide) rfl ?_
    refine z_iconst (v := 0) hJ d_Sx_sets_34 (by decide) ?_
    refine z_istore (lv' := [(0, _), (1, _), (2, _), (3, _), (4, _)]) hJ d_Sx_sets_35 (by decide) rfl ?_
    refine z_iconst (v := 0) hJ d_Sx_sets_37 (by decide) ?_
    refine z_istore (lv' := [(0, _), (1, _), (2, _), (3, _), (4, _), (5, _)]) hJ d_Sx_sets_38 (by decide) rfl ?_
    have L40 : ∀ j : Nat, j ≤ q_all P + 1 → J (xW g a f P K T tp ss es kp) 40 [(0, .ref (a 0)), (1, .int v), (2, .int (nI (q_awk P))), (3, .int (nI (q_all P))), (4, .int (nI (q_cnt (q_sts P v) j))), (5, .int (nI j))] [] := by
      refine zloop (q_all P + 1) (fun j hjN ih => ?_)
      refine z_iload hJ d_Sx_sets_40 5 rfl ?_
      refine z_iload_n hJ d_Sx_sets_42 3 rfl ?_
      refine z_icmp_gt hJ d_Sx_sets_43 (fun c_43 => ?_) (fun c_43 => ?_)
      · skip
        have h_43 : (q_all P) < j := by
          have e := nI_ltI (a := (q_all P)) (b := j) (by omega) (by omega)
          exact e.mp c_43
        obtain rfl : j = q_all P + 1 := by omega
        refine z_iload hJ d_Sx_sets_70 4 rfl ?_
        exact z_ri hR d_Sx_sets_72 (by simp [p_sets, c_8, ← ha1]) (by simp [p_sets, c_8])
      · skip
        have h_43 : ¬ ((q_all P) < j) := by
          have e := nI_ltI (a := (q_all P)) (b := j) (by omega) (by omega)
          exact fun q => c_43 (e.mpr q)
        refine z_aload_n hJ d_Sx_sets_46 0 rfl ?_
        refine z_get hJ d_Sx_sets_47 hc_Sx f_Sx_16 0 rfl rfl (by decide) ?_
        refine z_iload hJ d_Sx_sets_50 5 rfl ?_
        refine z_iload_n hJ d_Sx_sets_52 2 rfl ?_
        refine z_iand hJ d_Sx_sets_53 ?_
        refine z_c (y := nI (j &&& q_awk P)) (zand _ _) ?_
        refine z_callVi hJ (m_Rd_earned (aw := j &&& q_awk P) hP.1 hP.2.1 (Nat.lt_of_le_of_lt Nat.and_le_left (by omega))) k_Sx_173 zL_P d_Sx_sets_54 hc_Rd 2 rfl rfl rfl (Nat.le_of_ble_eq_true rfl) ⟨by decide, by decide⟩ ?_
        refine z_iload_n hJ d_Sx_sets_57 1 rfl ?_
        refine z_icmp_lt hJ d_Sx_sets_58 (fun c_58 => ?_) (fun c_58 => ?_)
        · skip
          refine z_iinc (v := nI (j + 1)) (lv' := [(0, _), (1, _), (2, _), (3, _), (4, _), (5, _)]) hJ d_Sx_sets_64 5 rfl (zinc _) (by decide) rfl ?_
          refine z_goto hJ d_Sx_sets_67 ?_
          have e := ih (by omega)
          rw [q_cnt_f (f := q_sts P v) (by simp [q_sts, c_58])] at e
          exact e
        · skip
          refine z_iinc (v := nI ((q_cnt (q_sts P v) j) + 1)) (lv' := [(0, _), (1, _), (2, _), (3, _), (4, _), (5, _)]) hJ d_Sx_sets_61 4 rfl (zinc _) (by decide) rfl ?_
          refine z_iinc (v := nI (j + 1)) (lv' := [(0, _), (1, _), (2, _), (3, _), (4, _), (5, _)]) hJ d_Sx_sets_64 5 rfl (zinc _) (by decide) rfl ?_
          refine z_goto hJ d_Sx_sets_67 ?_
          have e := ih (by omega)
          rw [q_cnt_t (f := q_sts P v) (by simp [q_sts, c_58])] at e
          exact e
    exact L40 0 (Nat.zero_le _)
  · skip
    refine z_aload_n hJ d_Sx_sets_11 0 rfl ?_
    refine z_ldc hJ d_Sx_sets_12 c_Sx_54 ?_
    refine z_callVi hJ m_Sx_tell_0 k_Sx_55 zL.id d_Sx_sets_14 hc_Sx 0 rfl rfl rfl (Nat.le_of_ble_eq_true rfl) ⟨by decide, by decide⟩ ?_
    exact z_ri hR d_Sx_sets_17 (by simp [p_sets, c_8]; try rfl) (by simp [p_sets, c_8])
set_option maxRecDepth 100000 in
theorem m_Sx_feed {g : Nat → Nat → Nat} {a : Nat → Nat} {f : Nat → Int32} {P K T : RS} {tp : TS} {ss : Nat → SS} {es : Nat → Int32} {kp : Bool} {x n : Int32} (hz : tp.2.1 ≤ 120) : zM g y_Sx_feed b_Sx_feed 3 (some .int) 2 [.ref (a 0), .int x, .int n] (xW g a f P K T tp ss es kp) [.int (p_feed f tp x n).1] (xW g a (p_feed f tp x n).2.1 P K T (p_feed f tp x n).2.2 ss es kp) := by
  refine zMi (lv := [(0, .ref (a 0)), (1, .int x), (2, .int n)]) (by decide) (Nat.le_of_ble_eq_true rfl) rfl (fun J hJ hR => ?_)
  rcases q_in_or n with ⟨m, hm1, hm4, rfl⟩ | hq
  · have hq : q_in (nI m) 1 4 = true := by
      have h : m = 1 ∨ m = 2 ∨ m = 3 ∨ m = 4 := by omega
      rcases h with rfl | rfl | rfl | rfl <;> decide
    have hcl : (nI m).toNatClampNeg = m := nI_clamp (by omega)
    refine z_iload_n hJ d_Sx_feed_0 2 rfl ?_
    refine z_iconst (v := 1) hJ d_Sx_feed_1 (by decide) ?_
    refine z_iconst (v := 4) hJ d_Sx_feed_2 (by decide) ?_
    refine z_callSi hJ m_Sx_isWithin k_Sx_110 zL.nil d_Sx_feed_3 rfl rfl (Nat.le_of_ble_eq_true rfl) ⟨by decide, by decide⟩ ?_
    refine zb_ne hJ d_Sx_feed_6 (fun c_6 => ?_) (fun c_6 => False.elim (by rw [hq] at c_6; exact absurd c_6 (by decide)))
    refine z_aload_n hJ d_Sx_feed_16 0 rfl ?_
    refine z_get hJ d_Sx_feed_17 hc_Sx f_Sx_29 0 rfl rfl (by decide) ?_
    refine z_get hJ d_Sx_feed_20 hc_Tp f_Sx_223 29 rfl rfl (by decide) ?_
    refine z_iload_n hJ d_Sx_feed_23 2 rfl ?_
    refine z_iadd hJ d_Sx_feed_24 ?_
    refine z_c (y := nI (tp.2.1 + m)) (nI_add _ _) ?_
    refine z_bipush (v := 120) hJ d_Sx_feed_25 (by decide) ?_
    refine z_icmp_le hJ d_Sx_feed_27 (fun c_27 => ?_) (fun c_27 => ?_)
    · skip
      have h_27 : (tp.2.1 + m) ≤ 120 := by
        have e := nI_leI (a := (tp.2.1 + m)) (b := 120) (by omega) (by omega)
        exact e.mp c_27
      refine z_aload_n hJ d_Sx_feed_37 0 rfl ?_
      refine z_get hJ d_Sx_feed_38 hc_Sx f_Sx_29 0 rfl rfl (by decide) ?_
      refine z_iload_n hJ d_Sx_feed_41 1 rfl ?_
      refine z_iload_n hJ d_Sx_feed_42 2 rfl ?_
      refine z_callVv hJ (m_Tp_append (by omega)) k_Sx_226 zL_tp d_Sx_feed_43 hc_Tp 29 rfl rfl rfl (Nat.le_of_ble_eq_true rfl) ⟨by decide, by decide⟩ ?_
      refine z_aload_n hJ d_Sx_feed_46 0 rfl ?_
      refine z_get hJ d_Sx_feed_47 hc_Sx f_Sx_29 0 rfl rfl (by decide) ?_
      refine z_get hJ d_Sx_feed_50 hc_Tp f_Sx_223 29 rfl rfl (by decide) ?_
      exact z_ri hR d_Sx_feed_53 (by simp [p_feed, hq, hcl, h_27]) (by simp [p_feed, hq, hcl, h_27])
    · skip
      have h_27 : ¬ ((tp.2.1 + m) ≤ 120) := by
        have e := nI_leI (a := (tp.2.1 + m)) (b := 120) (by omega) (by omega)
        exact fun q => c_27 (e.mpr q)
      refine z_aload_n hJ d_Sx_feed_30 0 rfl ?_
      refine z_ldc hJ d_Sx_feed_31 c_Sx_63 ?_
      refine z_callVi hJ m_Sx_tell_1 k_Sx_55 zL.id d_Sx_feed_33 hc_Sx 0 rfl rfl rfl (Nat.le_of_ble_eq_true rfl) ⟨by decide, by decide⟩ ?_
      exact z_ri hR d_Sx_feed_36 (by simp [p_feed, hq, hcl, h_27]) (by simp [p_feed, hq, hcl, h_27])
  · skip
    refine z_iload_n hJ d_Sx_feed_0 2 rfl ?_
    refine z_iconst (v := 1) hJ d_Sx_feed_1 (by decide) ?_
    refine z_iconst (v := 4) hJ d_Sx_feed_2 (by decide) ?_
    refine z_callSi hJ m_Sx_isWithin k_Sx_110 zL.nil d_Sx_feed_3 rfl rfl (Nat.le_of_ble_eq_true rfl) ⟨by decide, by decide⟩ ?_
    refine zb_ne hJ d_Sx_feed_6 (fun c_6 => False.elim (by rw [hq] at c_6; exact absurd c_6 (by decide))) (fun c_6 => ?_)
    refine z_aload_n hJ d_Sx_feed_9 0 rfl ?_
    refine z_ldc hJ d_Sx_feed_10 c_Sx_54 ?_
    refine z_callVi hJ m_Sx_tell_0 k_Sx_55 zL.id d_Sx_feed_12 hc_Sx 0 rfl rfl rfl (Nat.le_of_ble_eq_true rfl) ⟨by decide, by decide⟩ ?_
    exact z_ri hR d_Sx_feed_15 (by simp [p_feed, hq, c_6]; try rfl) (by simp [p_feed, hq, c_6])
set_option maxRecDepth 100000 in
theorem m_Sx_wipe {g : Nat → Nat → Nat} {a : Nat → Nat} {f : Nat → Int32} {P K T : RS} {tp : TS} {ss : Nat → SS} {es : Nat → Int32} {kp : Bool}   : zM g y_Sx_wipe b_Sx_wipe 1 (some .int) 1 [.ref (a 0)] (xW g a f P K T tp ss es kp) [.int (nI tp.2.1)] (xW g a f P K T (q_emp tp) ss es kp) := by
  refine zMi (lv := [(0, .ref (a 0))]) (by decide) (Nat.le_of_ble_eq_true rfl) rfl (fun J hJ hR => ?_)
  refine z_aload_n hJ d_Sx_wipe_0 0 rfl ?_
  refine z_get hJ d_Sx_wipe_1 hc_Sx f_Sx_29 0 rfl rfl (by decide) ?_
  refine z_callVi hJ m_Tp_empty k_Sx_230 zL_tp d_Sx_wipe_4 hc_Tp 29 rfl rfl rfl (Nat.le_of_ble_eq_true rfl) ⟨by decide, by decide⟩ ?_
  exact z_ri hR d_Sx_wipe_7 rfl rfl
set_option maxRecDepth 100000 in
theorem m_Sx_road {g : Nat → Nat → Nat} {a : Nat → Nat} {f : Nat → Int32} {P K T : RS} {tp : TS} {ss : Nat → SS} {es : Nat → Int32} {kp : Bool}  (hP : zPi P) (hz : tp.2.1 ≤ 120) : zM g y_Sx_road b_Sx_road 2 (some .int) 9 [.ref (a 0)] (xW g a f P K T tp ss es kp) [.int (p_road P tp).1] (xW g a f (p_road P tp).2.1 K (p_road P tp).2.2.1 (p_road P tp).2.2.2 ss es kp) := by
  refine zMi (lv := [(0, .ref (a 0))]) (by decide) (Nat.le_of_ble_eq_true rfl) rfl (fun J hJ hR => ?_)
  refine z_aload_n hJ d_Sx_road_0 0 rfl ?_
  refine z_get hJ d_Sx_road_1 hc_Sx f_Sx_23 0 rfl rfl (by decide) ?_
  refine z_aload_n hJ d_Sx_road_4 0 rfl ?_
  refine z_get hJ d_Sx_road_5 hc_Sx f_Sx_16 0 rfl rfl (by decide) ?_
  refine z_callVv hJ m_Rd_become k_Sx_182 zL_TP d_Sx_road_8 hc_Rd 20 rfl rfl rfl (Nat.le_of_ble_eq_true rfl) ⟨by decide, by decide⟩ ?_
  refine z_aload_n hJ d_Sx_road_11 0 rfl ?_
  refine z_get hJ d_Sx_road_12 hc_Sx f_Sx_29 0 rfl rfl (by decide) ?_
  refine z_aload_n hJ d_Sx_road_15 0 rfl ?_
  refine z_get hJ d_Sx_road_16 hc_Sx f_Sx_23 0 rfl rfl (by decide) ?_
  refine z_callVi hJ (m_Tp_tellTo hz hP) k_Sx_233 zL_tpT d_Sx_road_19 hc_Tp 29 rfl rfl rfl (Nat.le_of_ble_eq_true rfl) ⟨by decide, by decide⟩ ?_
  refine z_c (y := (q_rd P tp).1) rfl ?_
  refine z_istore_n (lv' := [(0, _), (1, _)]) hJ d_Sx_road_22 (by decide) rfl ?_
  refine z_iload_n hJ d_Sx_road_23 1 rfl ?_
  refine z_if_lt hJ d_Sx_road_24 (fun c_24 => ?_) (fun c_24 => ?_)
  · skip
    refine z_aload_n hJ d_Sx_road_38 0 rfl ?_
    refine z_get hJ d_Sx_road_39 hc_Sx f_Sx_29 0 rfl rfl (by decide) ?_
    refine z_callVi hJ m_Tp_empty k_Sx_230 zL_tp d_Sx_road_42 hc_Tp 29 rfl rfl rfl (Nat.le_of_ble_eq_true rfl) ⟨by decide, by decide⟩ ?_
    refine z_pop hJ d_Sx_road_45 rfl ?_
    refine z_iload_n hJ d_Sx_road_46 1 rfl ?_
    exact z_ri hR d_Sx_road_47 rfl (by simp [p_road, show ¬ 0 ≤ (q_rd P tp).1 from fun q => absurd c_24 (Int32.not_lt.mpr q)]; rfl)
  · skip
    refine z_aload_n hJ d_Sx_road_27 0 rfl ?_
    refine z_get hJ d_Sx_road_28 hc_Sx f_Sx_16 0 rfl rfl (by decide) ?_
    refine z_aload_n hJ d_Sx_road_31 0 rfl ?_
    refine z_get hJ d_Sx_road_32 hc_Sx f_Sx_23 0 rfl rfl (by decide) ?_
    refine z_callVv hJ m_Rd_become k_Sx_182 zL_PT d_Sx_road_35 hc_Rd 2 rfl rfl rfl (Nat.le_of_ble_eq_true rfl) ⟨by decide, by decide⟩ ?_
    refine z_aload_n hJ d_Sx_road_38 0 rfl ?_
    refine z_get hJ d_Sx_road_39 hc_Sx f_Sx_29 0 rfl rfl (by decide) ?_
    refine z_callVi hJ m_Tp_empty k_Sx_230 zL_tp d_Sx_road_42 hc_Tp 29 rfl rfl rfl (Nat.le_of_ble_eq_true rfl) ⟨by decide, by decide⟩ ?_
    refine z_pop hJ d_Sx_road_45 rfl ?_
    refine z_iload_n hJ d_Sx_road_46 1 rfl ?_
    exact z_ri hR d_Sx_road_47 rfl (by simp [p_road, Int32.not_lt.mp c_24]; rfl)
