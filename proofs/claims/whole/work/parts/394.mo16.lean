/-- tasks closed up: what stands from lo to j came from 4 further on -/
def q_s4 (r : Nat → Int32) (lo j : Nat) : Nat → Int32 := fun x => if lo ≤ x ∧ x < j then r (x + 4) else r x
theorem q_s4_0 (r : Nat → Int32) (lo : Nat) : q_s4 r lo lo = r := by
  funext x
  unfold q_s4
  rw [if_neg (by omega)]
theorem q_s4_s (r : Nat → Int32) {lo j : Nat} (h : lo ≤ j) : upd (q_s4 r lo j) j (q_s4 r lo j (j + 4)) = q_s4 r lo (j + 1) := by
  funext x
  unfold upd q_s4
  by_cases e : x = j
  · subst e
    rw [if_pos rfl, if_neg (by omega), if_pos (by omega)]
  · rw [if_neg e]
    by_cases c : lo ≤ x ∧ x < j
    · rw [if_pos c, if_pos (by omega)]
    · rw [if_neg c, if_neg (by omega)]
theorem q_s4_lt (r : Nat → Int32) {lo j x : Nat} (h : x < lo) : q_s4 r lo j x = r x := by
  unfold q_s4
  rw [if_neg (by omega)]
theorem z384 (n : Nat) : (38 : Int32) + 4 * nI n = nI (38 + 4 * n) := by
  rw [show (38 : Int32) = nI 38 from rfl, show (4 : Int32) = nI 4 from rfl, pk_mul, nI_add]
set_option maxRecDepth 100000 in
theorem m_Mo_done {g : Nat → Nat → Nat} {a : Nat → Nat} {x0 : Nat → Int32} {x1 : Nat → Int32} {x3 : Nat → Int32} {x4 : Nat → Int32} {x5 : Nat → Int64} {x6 : Nat → Int32} {x7 : Nat} {x8 : Int32} {x9 : Nat} {x10 : Nat} {x11 : Int64} {x12 : Int32} {x13 : Bool} {x14 : Nat → Int32} {x15 : Nat → Int32} {x16 : Nat → Int64} {x17 : Nat → Int64} {x18 : Nat → Int32} {x19 : Nat → Int32} {x20 : Bool} {P : RS} {i : Int32} (hR0 : zRo P x0) (hP : zPi P) (hG : zRg P) : zM g y_Mo_done b_Mo_done 4 (some .int) 2 [.ref (a 0), .int i] (mV g a x0 x1 127 x3 x4 x5 x6 x7 x8 x9 x10 x11 x12 x13 x14 x15 x16 x17 x18 x19 x20) [.int (p_done x1 P i).1] (mV g a (if q_ix i P.2.2.1 then upd (q_s4 x0 (38 + 4 * i.toNatClampNeg) (38 + 4 * (P.2.2.1 - 1))) 2 (nI (P.2.2.1 - 1)) else x0) ((p_done x1 P i).2.1) 127 x3 x4 x5 x6 x7 x8 x9 x10 x11 x12 x13 x14 x15 x16 x17 x18 x19 x20) := by
  refine zMi (lv := [(0, .ref (a 0)), (1, .int i)]) (by decide) (Nat.le_of_ble_eq_true rfl) rfl (fun J hJ hR => ?_)
  rcases q_ix_or i (n := P.2.2.1) (by first | exact Nat.le_trans hP.1 (by decide) | exact hP.2.1) with ⟨k, hj, rfl⟩ | hq
  · have hj7 := hP.1
    have hj8 := hP.2.1
    have hq := q_ix_t hj (n := P.2.2.1) (by omega)
    have hcl : (nI k).toNatClampNeg = k := nI_clamp (by omega)
    refine z_aload_n hJ d_Mo_done_0 0 rfl ?_
    refine z_iload_n hJ d_Mo_done_1 1 rfl ?_
    refine z_callVi hJ (m_Mo_isTask (M := (x0, x1, 127, x3, x4, x5, x6, x7, x8, x9, x10, x11, x12, x13, x14, x15, x16, x17, x18, x19, x20)) hR0) k_Mo_126 zL_mv d_Mo_done_2 hc_Mo 0 rfl rfl rfl (Nat.le_of_ble_eq_true rfl) ⟨by decide, by decide⟩ ?_
    refine zb_ne hJ d_Mo_done_5 (fun c_5 => ?_) (fun c_5 => False.elim (by rw [hq] at c_5; exact absurd c_5 (by decide)))
    refine z_aload_n hJ d_Mo_done_15 0 rfl ?_
    refine z_iload_n hJ d_Mo_done_16 1 rfl ?_
    refine z_iconst (v := 3) hJ d_Mo_done_17 (by decide) ?_
    refine z_callVi hJ (m_Mo_asks3 (M := (x0, x1, 127, x3, x4, x5, x6, x7, x8, x9, x10, x11, x12, x13, x14, x15, x16, x17, x18, x19, x20)) hR0 (by omega)) k_Mo_117 zL_mv d_Mo_done_18 hc_Mo 0 rfl rfl rfl (Nat.le_of_ble_eq_true rfl) ⟨by decide, by decide⟩ ?_
    refine z_istore_n (lv' := [(0, _), (1, _), (2, _)]) hJ d_Mo_done_21 (by decide) rfl ?_
    refine z_bipush (v := 38) hJ d_Mo_done_22 (by decide) ?_
    refine z_iconst (v := 4) hJ d_Mo_done_24 (by decide) ?_
    refine z_iload_n hJ d_Mo_done_25 1 rfl ?_
    refine z_imul hJ d_Mo_done_26 ?_
    refine z_iadd hJ d_Mo_done_27 ?_
    refine z_c (z384 k) ?_
    refine z_istore_n (lv' := [(0, _), (1, _), (2, _), (3, _)]) hJ d_Mo_done_28 (by decide) rfl ?_
    have L29 : ∀ j : Nat, j ≤ (38 + 4 * (P.2.2.1 - 1)) → (38 + 4 * k) ≤ j → J (mV g a (q_s4 x0 (38 + 4 * k) j) x1 127 x3 x4 x5 x6 x7 x8 x9 x10 x11 x12 x13 x14 x15 x16 x17 x18 x19 x20) 29 [(0, .ref (a 0)), (1, .int (nI k)), (2, .int (rpa P k)), (3, .int (nI j))] [] := by
      refine zloop ((38 + 4 * (P.2.2.1 - 1))) (fun j hjN ih => ?_)
      intro hlo
      refine z_iload_n hJ d_Mo_done_29 3 rfl ?_
      refine z_bipush (v := 38) hJ d_Mo_done_30 (by decide) ?_
      refine z_iconst (v := 4) hJ d_Mo_done_32 (by decide) ?_
      refine z_aload_n hJ d_Mo_done_33 0 rfl ?_
      refine z_get hJ d_Mo_done_34 hc_Mo f_Mo_7 0 rfl rfl (by decide) ?_
      refine z_iconst (v := 2) hJ d_Mo_done_37 (by decide) ?_
      refine z_iald hJ d_Mo_done_38 1 (2) rfl rfl (by decide) (by decide) ?_
      refine z_c (y := nI P.2.2.1) ((q_s4_lt x0 (by omega)).trans hR0.2.2.1) ?_
      refine z_iconst (v := 1) hJ d_Mo_done_39 (by decide) ?_
      refine z_isub hJ d_Mo_done_40 ?_
      refine z_c (zsub1 (by omega)) ?_
      refine z_imul hJ d_Mo_done_41 ?_
      refine z_iadd hJ d_Mo_done_42 ?_
      refine z_c (z384 _) ?_
      refine z_icmp_ge hJ d_Mo_done_43 (fun c_43 => ?_) (fun c_43 => ?_)
      · skip
        try dsimp only at c_43
        have h_43 : (38 + 4 * (P.2.2.1 - 1)) ≤ j := by
          have e := nI_leI (a := (38 + 4 * (P.2.2.1 - 1))) (b := j) (by omega) (by omega)
          exact e.mp c_43
        have hjn : j = (38 + 4 * (P.2.2.1 - 1)) := by omega
        refine z_aload_n hJ d_Mo_done_66 0 rfl ?_
        refine z_get hJ d_Mo_done_67 hc_Mo f_Mo_7 0 rfl rfl (by decide) ?_
        refine z_iconst (v := 2) hJ d_Mo_done_70 (by decide) ?_
        refine z_dup2 hJ d_Mo_done_71 rfl rfl ?_
        refine z_iald hJ d_Mo_done_72 1 (2) rfl rfl (by decide) (by decide) ?_
        refine z_c (y := nI P.2.2.1) ((q_s4_lt x0 (by omega)).trans hR0.2.2.1) ?_
        refine z_iconst (v := 1) hJ d_Mo_done_73 (by decide) ?_
        refine z_isub hJ d_Mo_done_74 ?_
        refine z_c (zsub1 (by omega)) ?_
        refine z_iast (w' := mV g a (upd (q_s4 x0 (38 + 4 * k) j) (2) (nI (P.2.2.1 - 1))) x1 127 x3 x4 x5 x6 x7 x8 x9 x10 x11 x12 x13 x14 x15 x16 x17 x18 x19 x20) hJ d_Mo_done_75 1 (2) rfl rfl (by decide) (by decide) rfl ?_
        refine z_iload_n hJ d_Mo_done_76 2 rfl ?_
        exact z_ri hR d_Mo_done_77 (by simp [p_done, hq, hcl, hjn, c_5, c_43]; try rfl) (by simp [p_done, hq, hcl, hjn, c_5, c_43])
      · skip
        try dsimp only at c_43
        have h_43 : ¬ ((38 + 4 * (P.2.2.1 - 1)) ≤ j) := by
          have e := nI_leI (a := (38 + 4 * (P.2.2.1 - 1))) (b := j) (by omega) (by omega)
          exact fun q => c_43 (e.mpr q)
        refine z_aload_n hJ d_Mo_done_46 0 rfl ?_
        refine z_get hJ d_Mo_done_47 hc_Mo f_Mo_7 0 rfl rfl (by decide) ?_
        refine z_iload_n hJ d_Mo_done_50 3 rfl ?_
        refine z_aload_n hJ d_Mo_done_51 0 rfl ?_
        refine z_get hJ d_Mo_done_52 hc_Mo f_Mo_7 0 rfl rfl (by decide) ?_
        refine z_iload_n hJ d_Mo_done_55 3 rfl ?_
        refine z_iconst (v := 4) hJ d_Mo_done_56 (by decide) ?_
        refine z_iadd hJ d_Mo_done_57 ?_
        refine z_c (y := nI (j + 4)) (nI_add j 4) ?_
        refine z_iald hJ d_Mo_done_58 1 (j + 4) rfl rfl (by omega) (by decide) ?_
        refine z_iast (w' := mV g a (upd (q_s4 x0 (38 + 4 * k) j) (j) (q_s4 x0 (38 + 4 * k) j (j + 4))) x1 127 x3 x4 x5 x6 x7 x8 x9 x10 x11 x12 x13 x14 x15 x16 x17 x18 x19 x20) hJ d_Mo_done_59 1 (j) rfl rfl (by omega) (by decide) rfl ?_
        refine z_w (w' := mV g a (q_s4 x0 (38 + 4 * k) (j + 1)) x1 127 x3 x4 x5 x6 x7 x8 x9 x10 x11 x12 x13 x14 x15 x16 x17 x18 x19 x20) (by rw [q_s4_s x0 hlo]) ?_
        refine z_iinc (v := nI (j + 1)) (lv' := [(0, _), (1, _), (2, _), (3, _)]) hJ d_Mo_done_60 3 rfl (zinc _) (by decide) rfl ?_
        refine z_goto hJ d_Mo_done_63 ?_
        exact ih (by omega) (by omega)
    have e := L29 (38 + 4 * k) (by omega) (Nat.le_refl _)
    rw [q_s4_0] at e
    exact e
  · skip
    refine z_aload_n hJ d_Mo_done_0 0 rfl ?_
    refine z_iload_n hJ d_Mo_done_1 1 rfl ?_
    refine z_callVi hJ (m_Mo_isTask (M := (x0, x1, 127, x3, x4, x5, x6, x7, x8, x9, x10, x11, x12, x13, x14, x15, x16, x17, x18, x19, x20)) hR0) k_Mo_126 zL_mv d_Mo_done_2 hc_Mo 0 rfl rfl rfl (Nat.le_of_ble_eq_true rfl) ⟨by decide, by decide⟩ ?_
    refine zb_ne hJ d_Mo_done_5 (fun c_5 => False.elim (by rw [hq] at c_5; exact absurd c_5 (by decide))) (fun c_5 => ?_)
    refine z_aload_n hJ d_Mo_done_8 0 rfl ?_
    refine z_ldc hJ d_Mo_done_9 c_Mo_51 ?_
    refine z_callVi hJ m_Mo_finds_0 k_Mo_67 zL_mv d_Mo_done_11 hc_Mo 0 rfl rfl rfl (Nat.le_of_ble_eq_true rfl) ⟨by decide, by decide⟩ ?_
    exact z_ri hR d_Mo_done_14 (by simp [p_done, hq, c_5]; try rfl) (by simp [p_done, hq, c_5])
/-- the least from above: as a loop from 9 down to 1 finds it -/
def q_lst (f : Nat → Bool) : Nat → Nat → Nat
  | _, 0 => 0
  | k, m + 1 => if f k then k else q_lst f (k + 1) m
theorem q_lst_find (f : Nat → Bool) : ∀ (m k : Nat), q_find f (k + 1) m = (if q_lst f (k + 1) m = 0 then none else some (q_lst f (k + 1) m))
  | 0, k => rfl
  | m + 1, k => by
    rw [q_find, q_lst]
    by_cases h : f (k + 1) = true
    · rw [if_pos h, if_pos h, if_neg (by omega)]
    · rw [if_neg h, if_neg h, q_lst_find f m (k + 1)]
theorem q_lst_le (f : Nat → Bool) : ∀ (m k : Nat), q_lst f k m ≤ k + m
  | 0, k => Nat.zero_le _
  | m + 1, k => by
    rw [q_lst]
    split
    · omega
    · have := q_lst_le f m (k + 1)
      omega
set_option maxRecDepth 100000 in
theorem m_Mo_skill {g : Nat → Nat → Nat} {a : Nat → Nat} {x0 : Nat → Int32} {x1 : Nat → Int32} {x3 : Nat → Int32} {x4 : Nat → Int32} {x5 : Nat → Int64} {x6 : Nat → Int32} {x7 : Nat} {x8 : Int32} {x9 : Nat} {x10 : Nat} {x11 : Int64} {x12 : Int32} {x13 : Bool} {x14 : Nat → Int32} {x15 : Nat → Int32} {x16 : Nat → Int64} {x17 : Nat → Int64} {x18 : Nat → Int32} {x19 : Nat → Int32} {x20 : Bool} {P : RS} {i u : Int32} (hR0 : zRo P x0) (hP : zPi P) (hG : zRg P) : zM g y_Mo_skill b_Mo_skill 6 (some .int) 7 [.ref (a 0), .int i, .int u] (mV g a x0 x1 127 x3 x4 x5 x6 x7 x8 x9 x10 x11 x12 x13 x14 x15 x16 x17 x18 x19 x20) [.int (p_skill x1 P P i u).1] (mV g a x0 ((p_skill x1 P P i u).2.1) 127 x3 x4 x5 x6 x7 x8 x9 x10 x11 x12 x13 x14 x15 x16 x17 x18 x19 x20) := by
  refine zMi (lv := [(0, .ref (a 0)), (1, .int i), (2, .int u)]) (by decide) (Nat.le_of_ble_eq_true rfl) rfl (fun J hJ hR => ?_)
  rcases q_ix_or2 i u (n := P.2.1) (t := P.2.2.1) (Nat.le_trans hP.1 (by decide)) hP.2.1 with ⟨j, k, hj, hk, rfl, rfl⟩ | ⟨hq, hq2⟩ | hq
  · have hj7 := hP.1
    have hj8 := hP.2.1
    have hq := q_ix_t hj (n := P.2.1) (by omega)
    have hq2 := q_ix_t hk (n := P.2.2.1) (by omega)
    have hcl : (nI j).toNatClampNeg = j := nI_clamp (by omega)
    have hcl2 : (nI k).toNatClampNeg = k := nI_clamp (by omega)
    refine z_aload_n hJ d_Mo_skill_0 0 rfl ?_
    refine z_iload_n hJ d_Mo_skill_1 1 rfl ?_
    refine z_callVi hJ (m_Mo_isOne (M := (x0, x1, 127, x3, x4, x5, x6, x7, x8, x9, x10, x11, x12, x13, x14, x15, x16, x17, x18, x19, x20)) hR0) k_Mo_96 zL_mv d_Mo_skill_2 hc_Mo 0 rfl rfl rfl (Nat.le_of_ble_eq_true rfl) ⟨by decide, by decide⟩ ?_
    refine zb_eq hJ d_Mo_skill_5 (fun c_5 => False.elim (by rw [hq] at c_5; exact absurd c_5 (by decide))) (fun c_5 => ?_)
    refine z_aload_n hJ d_Mo_skill_8 0 rfl ?_
    refine z_iload_n hJ d_Mo_skill_9 2 rfl ?_
    refine z_callVi hJ (m_Mo_isTask (M := (x0, x1, 127, x3, x4, x5, x6, x7, x8, x9, x10, x11, x12, x13, x14, x15, x16, x17, x18, x19, x20)) hR0) k_Mo_126 zL_mv d_Mo_skill_10 hc_Mo 0 rfl rfl rfl (Nat.le_of_ble_eq_true rfl) ⟨by decide, by decide⟩ ?_
    refine zb_ne hJ d_Mo_skill_13 (fun c_13 => ?_) (fun c_13 => False.elim (by rw [hq2] at c_13; exact absurd c_13 (by decide)))
    refine z_aload_n hJ d_Mo_skill_23 0 rfl ?_
    refine z_iload_n hJ d_Mo_skill_24 1 rfl ?_
    refine z_iconst (v := 3) hJ d_Mo_skill_25 (by decide) ?_
    refine z_callVi hJ (m_Mo_its3 (M := (x0, x1, 127, x3, x4, x5, x6, x7, x8, x9, x10, x11, x12, x13, x14, x15, x16, x17, x18, x19, x20)) hR0 (by omega)) k_Mo_76 zL_mv d_Mo_skill_26 hc_Mo 0 rfl rfl rfl (Nat.le_of_ble_eq_true rfl) ⟨by decide, by decide⟩ ?_
    refine z_istore_n (lv' := [(0, _), (1, _), (2, _), (3, _)]) hJ d_Mo_skill_29 (by decide) rfl ?_
    refine z_iconst (v := 0) hJ d_Mo_skill_30 (by decide) ?_
    refine z_istore (lv' := [(0, _), (1, _), (2, _), (3, _), (4, _)]) hJ d_Mo_skill_31 (by decide) rfl ?_
    refine z_bipush (v := 9) hJ d_Mo_skill_33 (by decide) ?_
    refine z_istore (lv' := [(0, _), (1, _), (2, _), (3, _), (4, _), (5, _)]) hJ d_Mo_skill_35 (by decide) rfl ?_
    have L37 : ∀ d : Nat, ∀ F : Nat → Int32, d ≤ 9 → (∀ v, upd F (3 + 5 * j + 3) v = upd x0 (3 + 5 * j + 3) v) → J (mV g a F x1 127 x3 x4 x5 x6 x7 x8 x9 x10 x11 x12 x13 x14 x15 x16 x17 x18 x19 x20) 37 [(0, .ref (a 0)), (1, .int (nI j)), (2, .int (nI k)), (3, .int (rs P j)), (4, .int (nI (q_lst (q_ms P j k) (d + 1) (9 - d)))), (5, .int (nI d))] [] := by
      refine zloopd (fun d ih_d => ?_)
      intro F hd9 hF
      have hlq := q_lst_le (q_ms P j k) (9 - d) (d + 1)
      refine z_iload hJ d_Mo_skill_37 5 rfl ?_
      refine z_if_le hJ d_Mo_skill_39 (fun c_39 => ?_) (fun c_39 => ?_)
      · skip
        try dsimp only at c_39
        have h_39 : d ≤ 0 := by
          have e := nI_leI (a := d) (b := 0) (by omega) (by omega)
          exact e.mp c_39
        have hd0 : d = 0 := by omega
        refine z_aload_n hJ d_Mo_skill_73 0 rfl ?_
        refine z_iload_n hJ d_Mo_skill_74 1 rfl ?_
        refine z_iconst (v := 3) hJ d_Mo_skill_75 (by decide) ?_
        refine z_iload_n hJ d_Mo_skill_76 3 rfl ?_
        refine z_callVv hJ (m_Mo_puts (p := j) (w := 3) (by omega) (by decide)) k_Mo_56 zL_mv d_Mo_skill_77 hc_Mo 0 rfl rfl rfl (Nat.le_of_ble_eq_true rfl) ⟨by decide, by decide⟩ ?_
        refine z_iload hJ d_Mo_skill_80 4 rfl ?_
        refine z_if_ne hJ d_Mo_skill_82 (fun c_82 => ?_) (fun c_82 => ?_)
        · skip
          try dsimp only at c_82
          have h_82 : ¬ ((q_lst (q_ms P j k) (d + 1) (9 - d)) = 0) := by
            have e := nI_eq (a := (q_lst (q_ms P j k) (d + 1) (9 - d))) (b := 0) (by omega) (by omega)
            exact fun q => c_82 (e.mpr q)
          refine z_iload hJ d_Mo_skill_94 4 rfl ?_
          exact z_ri hR d_Mo_skill_96 (by subst hd0; have h8 : ¬ q_lst (q_ms P j k) 1 9 = 0 := h_82; simp [p_skill, hq, hq2, hcl, hcl2, q_lst_find, h8]) (by subst hd0; have h8 : ¬ q_lst (q_ms P j k) 1 9 = 0 := h_82; rw [hF, upd_id (hR0.2.2.2.1 j (by omega)).2.2.2.1]; simp [p_skill, hq, hq2, hcl, hcl2, q_lst_find, h8])
        · skip
          try dsimp only at c_82
          have h_82 : (q_lst (q_ms P j k) (d + 1) (9 - d)) = 0 := by
            have e := nI_eq (a := (q_lst (q_ms P j k) (d + 1) (9 - d))) (b := 0) (by omega) (by omega)
            exact e.mp c_82
          refine z_aload_n hJ d_Mo_skill_85 0 rfl ?_
          refine z_ldc hJ d_Mo_skill_86 c_Mo_159 ?_
          refine z_callVi hJ m_Mo_finds_3 k_Mo_67 zL_mv d_Mo_skill_88 hc_Mo 0 rfl rfl rfl (Nat.le_of_ble_eq_true rfl) ⟨by decide, by decide⟩ ?_
          refine z_goto hJ d_Mo_skill_91 ?_
          exact z_ri hR d_Mo_skill_96 (by subst hd0; have h8 : q_lst (q_ms P j k) 1 9 = 0 := h_82; simp [p_skill, hq, hq2, hcl, hcl2, q_lst_find, h8]) (by subst hd0; have h8 : q_lst (q_ms P j k) 1 9 = 0 := h_82; rw [hF, upd_id (hR0.2.2.2.1 j (by omega)).2.2.2.1]; simp [p_skill, hq, hq2, hcl, hcl2, q_lst_find, h8])
      · skip
        try dsimp only at c_39
        have h_39 : ¬ (d ≤ 0) := by
          have e := nI_leI (a := d) (b := 0) (by omega) (by omega)
          exact fun q => c_39 (e.mpr q)
        obtain ⟨d', rfl⟩ : ∃ d', d = d' + 1 := ⟨d - 1, by omega⟩
        refine z_aload_n hJ d_Mo_skill_42 0 rfl ?_
        refine z_iload_n hJ d_Mo_skill_43 1 rfl ?_
        refine z_iconst (v := 3) hJ d_Mo_skill_44 (by decide) ?_
        refine z_iload hJ d_Mo_skill_45 5 rfl ?_
        refine z_callVv hJ (m_Mo_puts (p := j) (w := 3) (by omega) (by decide)) k_Mo_56 zL_mv d_Mo_skill_47 hc_Mo 0 rfl rfl rfl (Nat.le_of_ble_eq_true rfl) ⟨by decide, by decide⟩ ?_
        refine z_aload_n hJ d_Mo_skill_50 0 rfl ?_
        refine z_iload_n hJ d_Mo_skill_51 2 rfl ?_
        refine z_callVi hJ (m_Mo_isMet7 (P := q_setS P j (nI (d' + 1))) (M := (upd F (3 + 5 * j + 3) (nI (d' + 1)), x1, 127, x3, x4, x5, x6, x7, x8, x9, x10, x11, x12, x13, x14, x15, x16, x17, x18, x19, x20)) (t := k) (by dsimp only; rw [hF]; exact hR0.setS _ (by omega)) hP (hG.setS ⟨d' + 1, by omega, by omega, rfl⟩) rfl hk) k_Mo_129 zL_mv d_Mo_skill_52 hc_Mo 0 rfl rfl rfl (Nat.le_of_ble_eq_true rfl) ⟨by decide, by decide⟩ ?_
        refine zb_eq hJ d_Mo_skill_55 (fun c_55 => ?_) (fun c_55 => ?_)
        · skip
          try dsimp only at c_55
          refine z_iload hJ d_Mo_skill_63 4 rfl ?_
          refine z_istore (lv' := [(0, _), (1, _), (2, _), (3, _), (4, _), (5, _)]) hJ d_Mo_skill_65 (by decide) rfl ?_
          refine z_iinc (v := nI d') (lv' := [(0, _), (1, _), (2, _), (3, _), (4, _), (5, _)]) hJ d_Mo_skill_67 5 rfl (zdec _) (by decide) rfl ?_
          refine z_goto hJ d_Mo_skill_70 ?_
          have e := ih_d d' (by omega) (upd F (3 + 5 * j + 3) (nI (d' + 1))) (by omega) (fun v => (upd_upd _ _ _ _).trans (hF v))
          rw [show 9 - d' = (9 - (d' + 1)) + 1 by omega, q_lst, show q_ms P j k (d' + 1) = false from c_55] at e
          exact e
        · skip
          try dsimp only at c_55
          refine z_iload hJ d_Mo_skill_58 5 rfl ?_
          refine z_goto hJ d_Mo_skill_60 ?_
          refine z_istore (lv' := [(0, _), (1, _), (2, _), (3, _), (4, _), (5, _)]) hJ d_Mo_skill_65 (by decide) rfl ?_
          refine z_iinc (v := nI d') (lv' := [(0, _), (1, _), (2, _), (3, _), (4, _), (5, _)]) hJ d_Mo_skill_67 5 rfl (zdec _) (by decide) rfl ?_
          refine z_goto hJ d_Mo_skill_70 ?_
          have e := ih_d d' (by omega) (upd F (3 + 5 * j + 3) (nI (d' + 1))) (by omega) (fun v => (upd_upd _ _ _ _).trans (hF v))
          rw [show 9 - d' = (9 - (d' + 1)) + 1 by omega, q_lst, show q_ms P j k (d' + 1) = true from c_55] at e
          exact e
    exact L37 9 _ (by decide) (fun v => rfl)
  · have hcase := hq2
    refine z_aload_n hJ d_Mo_skill_0 0 rfl ?_
    refine z_iload_n hJ d_Mo_skill_1 1 rfl ?_
    refine z_callVi hJ (m_Mo_isOne (M := (x0, x1, 127, x3, x4, x5, x6, x7, x8, x9, x10, x11, x12, x13, x14, x15, x16, x17, x18, x19, x20)) hR0) k_Mo_96 zL_mv d_Mo_skill_2 hc_Mo 0 rfl rfl rfl (Nat.le_of_ble_eq_true rfl) ⟨by decide, by decide⟩ ?_
    refine zb_eq hJ d_Mo_skill_5 (fun c_5 => False.elim (by rw [hq] at c_5; exact absurd c_5 (by decide))) (fun c_5 => ?_)
    refine z_aload_n hJ d_Mo_skill_8 0 rfl ?_
    refine z_iload_n hJ d_Mo_skill_9 2 rfl ?_
    refine z_callVi hJ (m_Mo_isTask (M := (x0, x1, 127, x3, x4, x5, x6, x7, x8, x9, x10, x11, x12, x13, x14, x15, x16, x17, x18, x19, x20)) hR0) k_Mo_126 zL_mv d_Mo_skill_10 hc_Mo 0 rfl rfl rfl (Nat.le_of_ble_eq_true rfl) ⟨by decide, by decide⟩ ?_
    refine zb_ne hJ d_Mo_skill_13 (fun c_13 => False.elim (by rw [hq2] at c_13; exact absurd c_13 (by decide))) (fun c_13 => ?_)
    refine z_aload_n hJ d_Mo_skill_16 0 rfl ?_
    refine z_ldc hJ d_Mo_skill_17 c_Mo_51 ?_
    refine z_callVi hJ m_Mo_finds_0 k_Mo_67 zL_mv d_Mo_skill_19 hc_Mo 0 rfl rfl rfl (Nat.le_of_ble_eq_true rfl) ⟨by decide, by decide⟩ ?_
    exact z_ri hR d_Mo_skill_22 (by simp [p_skill, hq, hq2, c_5, c_13]; try rfl) (by simp [p_skill, hq, hq2, c_5, c_13])
  · skip
    refine z_aload_n hJ d_Mo_skill_0 0 rfl ?_
    refine z_iload_n hJ d_Mo_skill_1 1 rfl ?_
    refine z_callVi hJ (m_Mo_isOne (M := (x0, x1, 127, x3, x4, x5, x6, x7, x8, x9, x10, x11, x12, x13, x14, x15, x16, x17, x18, x19, x20)) hR0) k_Mo_96 zL_mv d_Mo_skill_2 hc_Mo 0 rfl rfl rfl (Nat.le_of_ble_eq_true rfl) ⟨by decide, by decide⟩ ?_
    refine zb_eq hJ d_Mo_skill_5 (fun c_5 => ?_) (fun c_5 => False.elim (by rw [hq] at c_5; exact absurd c_5 (by decide)))
    refine z_aload_n hJ d_Mo_skill_16 0 rfl ?_
    refine z_ldc hJ d_Mo_skill_17 c_Mo_51 ?_
    refine z_callVi hJ m_Mo_finds_0 k_Mo_67 zL_mv d_Mo_skill_19 hc_Mo 0 rfl rfl rfl (Nat.le_of_ble_eq_true rfl) ⟨by decide, by decide⟩ ?_
    exact z_ri hR d_Mo_skill_22 (by simp [p_skill, hq, c_5]; try rfl) (by simp [p_skill, hq, c_5])
set_option maxRecDepth 100000 in
theorem m_Mo_sets {g : Nat → Nat → Nat} {a : Nat → Nat} {x0 : Nat → Int32} {x1 : Nat → Int32} {x3 : Nat → Int32} {x4 : Nat → Int32} {x5 : Nat → Int64} {x6 : Nat → Int32} {x7 : Nat} {x8 : Int32} {x9 : Nat} {x10 : Nat} {x11 : Int64} {x12 : Int32} {x13 : Bool} {x14 : Nat → Int32} {x15 : Nat → Int32} {x16 : Nat → Int64} {x17 : Nat → Int64} {x18 : Nat → Int32} {x19 : Nat → Int32} {x20 : Bool} {P : RS} {i : Int32} (hR0 : zRo P x0) (hP : zPi P) (hG : zRg P) : zM g y_Mo_sets b_Mo_sets 4 (some .int) 9 [.ref (a 0), .int i] (mV g a x0 x1 127 x3 x4 x5 x6 x7 x8 x9 x10 x11 x12 x13 x14 x15 x16 x17 x18 x19 x20) [.int (p_sets x1 P i).1] (mV g a x0 ((p_sets x1 P i).2) 127 x3 x4 x5 x6 x7 x8 x9 x10 x11 x12 x13 x14 x15 x16 x17 x18 x19 x20) := by
  have hj7 := hP.1
  have hj8 := hP.2.1
  have h27 : 2 ^ P.2.1 ≤ 2 ^ 7 := Nat.pow_le_pow_right (by decide) hP.1
  refine zMi (lv := [(0, .ref (a 0)), (1, .int i)]) (by decide) (Nat.le_of_ble_eq_true rfl) rfl (fun J hJ hR => ?_)
  refine z_iload_n hJ d_Mo_sets_0 1 rfl ?_
  refine z_iconst (v := 0) hJ d_Mo_sets_1 (by decide) ?_
  refine z_sipush (v := 999) hJ d_Mo_sets_2 (by decide) ?_
  refine z_callSi hJ m_Mo_in k_Mo_52 zL.nil d_Mo_sets_5 rfl rfl (Nat.le_of_ble_eq_true rfl) ⟨by decide, by decide⟩ ?_
  refine zb_ne hJ d_Mo_sets_8 (fun c_8 => ?_) (fun c_8 => ?_)
  · skip
    try dsimp only at c_8
    refine z_iconst (v := 0) hJ d_Mo_sets_18 (by decide) ?_
    refine z_istore_n (lv' := [(0, _), (1, _), (2, _)]) hJ d_Mo_sets_19 (by decide) rfl ?_
    refine z_iconst (v := 0) hJ d_Mo_sets_20 (by decide) ?_
    refine z_istore_n (lv' := [(0, _), (1, _), (2, _), (3, _)]) hJ d_Mo_sets_21 (by decide) rfl ?_
    have L22 : ∀ j : Nat, j ≤ 2 ^ P.2.1 → J (mV g a x0 x1 127 x3 x4 x5 x6 x7 x8 x9 x10 x11 x12 x13 x14 x15 x16 x17 x18 x19 x20) 22 [(0, .ref (a 0)), (1, .int i), (2, .int (nI (q_cnt (q_sts P i) j))), (3, .int (nI j))] [] := by
      refine zloop (2 ^ P.2.1) (fun j hjN ih => ?_)
      refine z_iload_n hJ d_Mo_sets_22 3 rfl ?_
      refine z_iconst (v := 1) hJ d_Mo_sets_23 (by decide) ?_
      refine z_aload_n hJ d_Mo_sets_24 0 rfl ?_
      refine z_get hJ d_Mo_sets_25 hc_Mo f_Mo_7 0 rfl rfl (by decide) ?_
      refine z_iconst (v := 1) hJ d_Mo_sets_28 (by decide) ?_
      refine z_iald hJ d_Mo_sets_29 1 (1) rfl rfl (by decide) (by decide) ?_
      refine z_c (y := nI P.2.1) hR0.2.1 ?_
      refine z_ishl hJ d_Mo_sets_30 ?_
      refine z_c (zshl1 (by omega)) ?_
      refine z_icmp_ge hJ d_Mo_sets_31 (fun c_31 => ?_) (fun c_31 => ?_)
      · skip
        try dsimp only at c_31
        have h_31 : (2 ^ P.2.1) ≤ j := by
          have e := nI_leI (a := (2 ^ P.2.1)) (b := j) (by omega) (by omega)
          exact e.mp c_31
        obtain rfl : j = 2 ^ P.2.1 := by omega
        refine z_iload_n hJ d_Mo_sets_57 2 rfl ?_
        exact z_ri hR d_Mo_sets_58 (by simp [p_sets, c_8, c_31]; try rfl) (by simp [p_sets, c_8, c_31])
      · skip
        try dsimp only at c_31
        have h_31 : ¬ ((2 ^ P.2.1) ≤ j) := by
          have e := nI_leI (a := (2 ^ P.2.1)) (b := j) (by omega) (by omega)
          exact fun q => c_31 (e.mpr q)
        refine z_iload_n hJ d_Mo_sets_34 2 rfl ?_
        refine z_aload_n hJ d_Mo_sets_35 0 rfl ?_
        refine z_iload_n hJ d_Mo_sets_36 3 rfl ?_
        refine z_callVi hJ (m_Mo_earnedBy (M := (x0, x1, 127, x3, x4, x5, x6, x7, x8, x9, x10, x11, x12, x13, x14, x15, x16, x17, x18, x19, x20)) hR0 hP hG (by omega)) k_Mo_163 zL_mv d_Mo_sets_37 hc_Mo 0 rfl rfl rfl (Nat.le_of_ble_eq_true rfl) ⟨by decide, by decide⟩ ?_
        refine z_iload_n hJ d_Mo_sets_40 1 rfl ?_
        refine z_icmp_lt hJ d_Mo_sets_41 (fun c_41 => ?_) (fun c_41 => ?_)
        · skip
          try dsimp only at c_41
          refine z_iconst (v := 0) hJ d_Mo_sets_48 (by decide) ?_
          refine z_iadd hJ d_Mo_sets_49 ?_
          refine z_c (y := nI (q_cnt (q_sts P i) j)) (Int32.add_zero _) ?_
          refine z_istore_n (lv' := [(0, _), (1, _), (2, _), (3, _)]) hJ d_Mo_sets_50 (by decide) rfl ?_
          refine z_iinc (v := nI (j + 1)) (lv' := [(0, _), (1, _), (2, _), (3, _)]) hJ d_Mo_sets_51 3 rfl (zinc _) (by decide) rfl ?_
          refine z_goto hJ d_Mo_sets_54 ?_
          have e := ih (by omega)
          rw [q_cnt_f (f := q_sts P i) (by simp [q_sts, c_41])] at e
          exact e
        · skip
          try dsimp only at c_41
          refine z_iconst (v := 1) hJ d_Mo_sets_44 (by decide) ?_
          refine z_goto hJ d_Mo_sets_45 ?_
          refine z_iadd hJ d_Mo_sets_49 ?_
          refine z_c (y := nI (q_cnt (q_sts P i) j + 1)) (nI_add _ 1) ?_
          refine z_istore_n (lv' := [(0, _), (1, _), (2, _), (3, _)]) hJ d_Mo_sets_50 (by decide) rfl ?_
          refine z_iinc (v := nI (j + 1)) (lv' := [(0, _), (1, _), (2, _), (3, _)]) hJ d_Mo_sets_51 3 rfl (zinc _) (by decide) rfl ?_
          refine z_goto hJ d_Mo_sets_54 ?_
          have e := ih (by omega)
          rw [q_cnt_t (f := q_sts P i) (by simp [q_sts, c_41])] at e
          exact e
    exact L22 0 (Nat.zero_le _)
  · skip
    try dsimp only at c_8
    refine z_aload_n hJ d_Mo_sets_11 0 rfl ?_
    refine z_ldc hJ d_Mo_sets_12 c_Mo_51 ?_
    refine z_callVi hJ m_Mo_finds_0 k_Mo_67 zL_mv d_Mo_sets_14 hc_Mo 0 rfl rfl rfl (Nat.le_of_ble_eq_true rfl) ⟨by decide, by decide⟩ ?_
    exact z_ri hR d_Mo_sets_17 (by simp [p_sets, c_8]; try rfl) (by simp [p_sets, c_8])
