theorem q_bad_or (ss : Nat → SS) (s : Int32) : (∃ k, k < 4 ∧ s = nI k ∧ ¬ (ss k).1 = 0) ∨ (∃ k, k < 4 ∧ s = nI k ∧ (ss k).1 = 0) ∨ q_in s 0 3 = false := by
  rcases q_in_sh s with ⟨k, hk, e⟩ | h
  · by_cases h0 : (ss k).1 = 0
    · exact Or.inr (Or.inl ⟨k, hk, e, h0⟩)
    · exact Or.inl ⟨k, hk, e, h0⟩
  · exact Or.inr (Or.inr h)
/-- goals laid, in the row -/
def q_lyr (num : Nat → Int64) (r : Nat → Int32) : Nat → Nat → Int32
  | 0 => r
  | j + 1 => if q_ok (num j) then upd (q_lyr num r j) (3 + 5 * j + 2) (num j).toInt32 else q_lyr num r j
theorem q_lyr_1 (num : Nat → Int64) (r : Nat → Int32) : ∀ j, q_lyr num r j 1 = r 1
  | 0 => rfl
  | j + 1 => by
    rw [q_lyr]
    split
    · rw [upd_ne (by omega)]; exact q_lyr_1 num r j
    · exact q_lyr_1 num r j
theorem zRo.lyr {P : RS} {r : Nat → Int32} (h : zRo P r) (num : Nat → Int64) : ∀ j, j ≤ 7 → zRo (q_gls P (q_lay num (rg P) j).2) (q_lyr num r j)
  | 0, _ => h
  | j + 1, hj => by
    have ih := zRo.lyr h num j (by omega)
    rw [q_lyr]
    by_cases c : q_ok (num j) = true
    · rw [if_pos c, q_lay_t c]
      exact ih.setG _ (by omega)
    · have c2 := Bool.eq_false_iff.mpr c
      rw [if_neg c, q_lay_f c2]
      exact ih
theorem q_ok_r {v : Int64} (h : q_ok v = true) : ∃ m, m < 31 ∧ v.toInt32 = nI m := by
  unfold q_ok at h
  simp only [Bool.and_eq_true, Bool.not_eq_true', decide_eq_false_iff_not] at h
  have h1 : 0 ≤ v := (lg_cmp_ge v 0).mp (Int32.not_lt.mp h.1)
  have h2 : ¬ 30 < v := fun q => h.2 (q_cmp_gt.mpr q)
  rw [Int64.le_iff_toInt_le, show (0 : Int64).toInt = 0 by decide] at h1
  rw [Int64.lt_iff_toInt_lt, show (30 : Int64).toInt = 30 by decide] at h2
  refine ⟨v.toInt.toNat, by omega, ?_⟩
  have e : v = Int64.ofInt v.toInt := (Int64.ofInt_toInt v).symm
  have e2 : (v.toInt.toNat : Int) = v.toInt := Int.toNat_of_nonneg h1
  rw [nI_i, e2]
  exact (Int32.ofInt_int64ToInt v).symm
theorem zRg.lay {P : RS} (h : zRg P) (num : Nat → Int64) : ∀ j, zRg (q_gls P (q_lay num (rg P) j).2)
  | 0 => h
  | j + 1 => by
    have ih := zRg.lay h num j
    by_cases c : q_ok (num j) = true
    · rw [q_lay_t c]
      exact ih.setG (q_ok_r c)
    · have c2 := Bool.eq_false_iff.mpr c
      rw [q_lay_f c2]
      exact ih
set_option maxRecDepth 100000 in
theorem m_Mo_badSheet_0 {g : Nat → Nat → Nat} {a : Nat → Nat} {x0 : Nat → Int32} {x1 : Nat → Int32} {x3 : Nat → Int32} {x4 : Nat → Int32} {x5 : Nat → Int64} {x6 : Nat → Int32} {x7 : Nat} {x8 : Int32} {x9 : Nat} {x10 : Nat} {x11 : Int64} {x12 : Int32} {x13 : Bool} {x17 : Nat → Int64} {x18 : Nat → Int32} {x19 : Nat → Int32} {x20 : Bool} {ss : Nat → SS} {k : Nat} (hk : k < 4) (h0 : ¬ (ss k).1 = 0) : zM g y_Mo_badSheet b_Mo_badSheet 2 (some .int) 2 [.ref (a 0), .int (nI k)] (mV g a x0 x1 127 x3 x4 x5 x6 x7 x8 x9 x10 x11 x12 x13 (q_b14 ss) (q_b15 ss) (q_b16 ss) x17 x18 x19 x20) [.int (0)] (mV g a x0 x1 127 x3 x4 x5 x6 x7 x8 x9 x10 x11 x12 x13 (q_b14 ss) (q_b15 ss) (q_b16 ss) x17 x18 x19 x20) := by
  refine zMi (lv := [(0, .ref (a 0)), (1, .int (nI k))]) (by decide) (Nat.le_of_ble_eq_true rfl) rfl (fun J hJ hR => ?_)
  refine z_iload_n hJ d_Mo_badSheet_0 1 rfl ?_
  refine z_callSi hJ m_Mo_isSheet k_Mo_302 zL.nil d_Mo_badSheet_1 rfl rfl (Nat.le_of_ble_eq_true rfl) ⟨by decide, by decide⟩ ?_
  refine zb_ne hJ d_Mo_badSheet_4 (fun c_4 => ?_) (fun c_4 => False.elim (by rw [q_in_sh_t hk] at c_4; exact absurd c_4 (by decide)))
  refine z_aload_n hJ d_Mo_badSheet_12 0 rfl ?_
  refine z_get hJ d_Mo_badSheet_13 hc_Mo f_Mo_33 0 rfl rfl (by decide) ?_
  refine z_iload_n hJ d_Mo_badSheet_16 1 rfl ?_
  refine z_iald hJ d_Mo_badSheet_17 7 (k) rfl rfl (by omega) (by decide) ?_
  refine z_c (y := (ss k).1) rfl ?_
  refine z_if_ne hJ d_Mo_badSheet_18 (fun c_18 => ?_) (fun c_18 => False.elim (by exact absurd c_18 h0))
  refine z_iconst (v := 0) hJ d_Mo_badSheet_27 (by decide) ?_
  exact z_ri hR d_Mo_badSheet_28 rfl rfl
set_option maxRecDepth 100000 in
theorem m_Mo_badSheet_m {g : Nat → Nat → Nat} {a : Nat → Nat} {x0 : Nat → Int32} {x1 : Nat → Int32} {x3 : Nat → Int32} {x4 : Nat → Int32} {x5 : Nat → Int64} {x6 : Nat → Int32} {x7 : Nat} {x8 : Int32} {x9 : Nat} {x10 : Nat} {x11 : Int64} {x12 : Int32} {x13 : Bool} {x17 : Nat → Int64} {x18 : Nat → Int32} {x19 : Nat → Int32} {x20 : Bool} {ss : Nat → SS} {k : Nat} (hk : k < 4) (h0 : (ss k).1 = 0) : zM g y_Mo_badSheet b_Mo_badSheet 2 (some .int) 2 [.ref (a 0), .int (nI k)] (mV g a x0 x1 127 x3 x4 x5 x6 x7 x8 x9 x10 x11 x12 x13 (q_b14 ss) (q_b15 ss) (q_b16 ss) x17 x18 x19 x20) [.int (-1000000006)] (mV g a x0 x1 127 x3 x4 x5 x6 x7 x8 x9 x10 x11 x12 x13 (q_b14 ss) (q_b15 ss) (q_b16 ss) x17 x18 x19 x20) := by
  refine zMi (lv := [(0, .ref (a 0)), (1, .int (nI k))]) (by decide) (Nat.le_of_ble_eq_true rfl) rfl (fun J hJ hR => ?_)
  refine z_iload_n hJ d_Mo_badSheet_0 1 rfl ?_
  refine z_callSi hJ m_Mo_isSheet k_Mo_302 zL.nil d_Mo_badSheet_1 rfl rfl (Nat.le_of_ble_eq_true rfl) ⟨by decide, by decide⟩ ?_
  refine zb_ne hJ d_Mo_badSheet_4 (fun c_4 => ?_) (fun c_4 => False.elim (by rw [q_in_sh_t hk] at c_4; exact absurd c_4 (by decide)))
  refine z_aload_n hJ d_Mo_badSheet_12 0 rfl ?_
  refine z_get hJ d_Mo_badSheet_13 hc_Mo f_Mo_33 0 rfl rfl (by decide) ?_
  refine z_iload_n hJ d_Mo_badSheet_16 1 rfl ?_
  refine z_iald hJ d_Mo_badSheet_17 7 (k) rfl rfl (by omega) (by decide) ?_
  refine z_c (y := (ss k).1) rfl ?_
  refine z_if_ne hJ d_Mo_badSheet_18 (fun c_18 => False.elim (by exact absurd h0 c_18)) (fun c_18 => ?_)
  refine z_ldcw hJ d_Mo_badSheet_21 c_Mo_306 ?_
  refine z_goto hJ d_Mo_badSheet_24 ?_
  exact z_ri hR d_Mo_badSheet_28 rfl rfl
set_option maxRecDepth 100000 in
theorem m_Mo_badSheet_b {g : Nat → Nat → Nat} {a : Nat → Nat} {x0 : Nat → Int32} {x1 : Nat → Int32} {x3 : Nat → Int32} {x4 : Nat → Int32} {x5 : Nat → Int64} {x6 : Nat → Int32} {x7 : Nat} {x8 : Int32} {x9 : Nat} {x10 : Nat} {x11 : Int64} {x12 : Int32} {x13 : Bool} {x17 : Nat → Int64} {x18 : Nat → Int32} {x19 : Nat → Int32} {x20 : Bool} {ss : Nat → SS} {s : Int32} (hq : q_in s 0 3 = false) : zM g y_Mo_badSheet b_Mo_badSheet 2 (some .int) 2 [.ref (a 0), .int s] (mV g a x0 x1 127 x3 x4 x5 x6 x7 x8 x9 x10 x11 x12 x13 (q_b14 ss) (q_b15 ss) (q_b16 ss) x17 x18 x19 x20) [.int (-1000000001)] (mV g a x0 x1 127 x3 x4 x5 x6 x7 x8 x9 x10 x11 x12 x13 (q_b14 ss) (q_b15 ss) (q_b16 ss) x17 x18 x19 x20) := by
  refine zMi (lv := [(0, .ref (a 0)), (1, .int s)]) (by decide) (Nat.le_of_ble_eq_true rfl) rfl (fun J hJ hR => ?_)
  refine z_iload_n hJ d_Mo_badSheet_0 1 rfl ?_
  refine z_callSi hJ m_Mo_isSheet k_Mo_302 zL.nil d_Mo_badSheet_1 rfl rfl (Nat.le_of_ble_eq_true rfl) ⟨by decide, by decide⟩ ?_
  refine zb_ne hJ d_Mo_badSheet_4 (fun c_4 => False.elim (by rw [hq] at c_4; exact absurd c_4 (by decide))) (fun c_4 => ?_)
  refine z_ldc hJ d_Mo_badSheet_7 c_Mo_51 ?_
  refine z_goto hJ d_Mo_badSheet_9 ?_
  exact z_ri hR d_Mo_badSheet_28 rfl rfl
theorem q_lay_le (num : Nat → Int64) (gl : Nat → Int32) : ∀ j, (q_lay num gl j).1 ≤ j
  | 0 => Nat.le_refl 0
  | j + 1 => by
    have h := q_lay_le num gl j
    rw [q_lay]
    split
    · exact Nat.succ_le_succ h
    · exact Nat.le_succ_of_le h
set_option maxRecDepth 100000 in
theorem m_Mo_lays {g : Nat → Nat → Nat} {a : Nat → Nat} {x0 : Nat → Int32} {x1 : Nat → Int32} {x3 : Nat → Int32} {x4 : Nat → Int32} {x5 : Nat → Int64} {x6 : Nat → Int32} {x7 : Nat} {x8 : Int32} {x9 : Nat} {x10 : Nat} {x11 : Int64} {x12 : Int32} {x13 : Bool} {x17 : Nat → Int64} {x18 : Nat → Int32} {x19 : Nat → Int32} {x20 : Bool} {ss : Nat → SS} {P : RS} {s : Int32} (hR0 : zRo P x0) (hP : zPi P) (hG : zRg P) (hss : ∀ k, k < 4 → (ss k).2.1 ≤ 40) : zM g y_Mo_lays b_Mo_lays 7 (some .int) 3 [.ref (a 0), .int s] (mV g a x0 x1 127 x3 x4 x5 x6 x7 x8 x9 x10 x11 x12 x13 (q_b14 ss) (q_b15 ss) (q_b16 ss) x17 x18 x19 x20) [.int (p_lays x1 P ss s).1] (mV g a (if q_in s 0 3 && decide (¬ (ss s.toNatClampNeg).1 = 0) then q_lyr (ss s.toNatClampNeg).2.2 x0 (min (ss s.toNatClampNeg).2.1 P.2.1) else x0) ((p_lays x1 P ss s).2.1) 127 x3 x4 x5 x6 x7 x8 x9 x10 x11 x12 x13 (q_b14 ss) (q_b15 ss) (q_b16 ss) x17 x18 x19 x20) := by
  refine zMi (lv := [(0, .ref (a 0)), (1, .int s)]) (by decide) (Nat.le_of_ble_eq_true rfl) rfl (fun J hJ hR => ?_)
  rcases q_bad_or ss s with ⟨k, hk, rfl, h0⟩ | ⟨k, hk, rfl, h0⟩ | hq
  · have hq := q_in_sh_t hk
    have hcl : (nI k).toNatClampNeg = k := nI_clamp (by omega)
    have hsk := hss k hk
    have hj7 := hP.1
    have hj8 := hP.2.1
    refine z_aload_n hJ d_Mo_lays_0 0 rfl ?_
    refine z_iload_n hJ d_Mo_lays_1 1 rfl ?_
    refine z_callVi hJ (m_Mo_badSheet_0 hk h0) k_Mo_314 zL.id d_Mo_lays_2 hc_Mo 0 rfl rfl rfl (Nat.le_of_ble_eq_true rfl) ⟨by decide, by decide⟩ ?_
    refine z_istore_n (lv' := [(0, _), (1, _), (2, _)]) hJ d_Mo_lays_5 (by decide) rfl ?_
    refine z_iload_n hJ d_Mo_lays_6 2 rfl ?_
    refine z_if_eq hJ d_Mo_lays_7 (fun _ => ?_) (fun c => absurd c (by decide))
    refine z_iconst (v := 0) hJ d_Mo_lays_16 (by decide) ?_
    refine z_istore_n (lv' := [(0, _), (1, _), (2, _), (3, _)]) hJ d_Mo_lays_17 (by decide) rfl ?_
    refine z_iconst (v := 0) hJ d_Mo_lays_18 (by decide) ?_
    refine z_istore (lv' := [(0, _), (1, _), (2, _), (3, _), (4, _)]) hJ d_Mo_lays_19 (by decide) rfl ?_
    have L21 : ∀ j : Nat, j ≤ (min (ss k).2.1 P.2.1) → J (mV g a (q_lyr (ss k).2.2 x0 j) x1 127 x3 x4 x5 x6 x7 x8 x9 x10 x11 x12 x13 (q_b14 ss) (q_b15 ss) (q_b16 ss) x17 x18 x19 x20) 21 [(0, .ref (a 0)), (1, .int (nI k)), (2, .int 0), (3, .int (nI (q_lay (ss k).2.2 (rg P) j).1)), (4, .int (nI j))] [] := by
      refine zloop ((min (ss k).2.1 P.2.1)) (fun j hjN ih => ?_)
      have hlb := q_lay_le (ss k).2.2 (rg P) j
      refine z_iload hJ d_Mo_lays_21 4 rfl ?_
      refine z_aload_n hJ d_Mo_lays_23 0 rfl ?_
      refine z_get hJ d_Mo_lays_24 hc_Mo f_Mo_36 0 rfl rfl (by decide) ?_
      refine z_iload_n hJ d_Mo_lays_27 1 rfl ?_
      refine z_iald hJ d_Mo_lays_28 8 (k) rfl rfl (by omega) (by decide) ?_
      refine z_c (y := nI (ss k).2.1) rfl ?_
      refine z_icmp_ge hJ d_Mo_lays_29 (fun c_29 => ?_) (fun c_29 => ?_)
      · skip
        try dsimp only at c_29
        have h_29 : (ss k).2.1 ≤ j := by
          have e := nI_leI (a := (ss k).2.1) (b := j) (by omega) (by omega)
          exact e.mp c_29
        have hjn : j = (min (ss k).2.1 P.2.1) := by omega
        refine z_iload_n hJ d_Mo_lays_92 3 rfl ?_
        exact z_ri hR d_Mo_lays_93 (by simp [p_lays, hq, hcl, h0, hjn]) (by simp [p_lays, hq, hcl, h0, hjn])
      · skip
        try dsimp only at c_29
        have h_29 : ¬ ((ss k).2.1 ≤ j) := by
          have e := nI_leI (a := (ss k).2.1) (b := j) (by omega) (by omega)
          exact fun q => c_29 (e.mpr q)
        refine z_iload hJ d_Mo_lays_32 4 rfl ?_
        refine z_aload_n hJ d_Mo_lays_34 0 rfl ?_
        refine z_get hJ d_Mo_lays_35 hc_Mo f_Mo_7 0 rfl rfl (by decide) ?_
        refine z_iconst (v := 1) hJ d_Mo_lays_38 (by decide) ?_
        refine z_iald hJ d_Mo_lays_39 1 (1) rfl rfl (by decide) (by decide) ?_
        refine z_c (y := nI P.2.1) ((q_lyr_1 _ _ _).trans hR0.2.1) ?_
        refine z_icmp_ge hJ d_Mo_lays_40 (fun c_40 => ?_) (fun c_40 => ?_)
        · skip
          try dsimp only at c_40
          have h_40 : P.2.1 ≤ j := by
            have e := nI_leI (a := P.2.1) (b := j) (by omega) (by omega)
            exact e.mp c_40
          have hjn : j = (min (ss k).2.1 P.2.1) := by omega
          refine z_iload_n hJ d_Mo_lays_92 3 rfl ?_
          exact z_ri hR d_Mo_lays_93 (by simp [p_lays, hq, hcl, h0, hjn]) (by simp [p_lays, hq, hcl, h0, hjn])
        · skip
          try dsimp only at c_40
          have h_40 : ¬ (P.2.1 ≤ j) := by
            have e := nI_leI (a := P.2.1) (b := j) (by omega) (by omega)
            exact fun q => c_40 (e.mpr q)
          refine z_aload_n hJ d_Mo_lays_43 0 rfl ?_
          refine z_get hJ d_Mo_lays_44 hc_Mo f_Mo_39 0 rfl rfl (by decide) ?_
          refine z_bipush (v := 40) hJ d_Mo_lays_47 (by decide) ?_
          refine z_iload_n hJ d_Mo_lays_49 1 rfl ?_
          refine z_imul hJ d_Mo_lays_50 ?_
          refine z_iload hJ d_Mo_lays_51 4 rfl ?_
          refine z_iadd hJ d_Mo_lays_53 ?_
          refine z_c (z40 k j) ?_
          refine z_lald hJ d_Mo_lays_54 9 (40 * k + j) rfl rfl (by omega) (by decide) ?_
          refine z_cl (y := (ss k).2.2 j) (q_b16_at ss (by omega)) ?_
          refine z_lstore (lv' := [(0, _), (1, _), (2, _), (3, _), (4, _), (5, _)]) hJ d_Mo_lays_55 (by decide) rfl ?_
          refine z_lload hJ d_Mo_lays_57 5 rfl ?_
          refine z_lconst (v := 0) hJ d_Mo_lays_59 (by decide) ?_
          refine z_lcmp hJ d_Mo_lays_60 ?_
          refine z_if_lt hJ d_Mo_lays_61 (fun c_61 => ?_) (fun c_61 => ?_)
          · skip
            try dsimp only at c_61
            have hok : q_ok ((ss k).2.2 j) = false := by unfold q_ok; rw [decide_eq_true c_61]; rfl
            refine z_iinc (v := nI (j + 1)) (lv' := [(0, _), (1, _), (2, _), (3, _), (4, _), (5, _)]) hJ d_Mo_lays_86 4 rfl (zinc _) (by decide) rfl ?_
            refine z_goto hJ d_Mo_lays_89 ?_
            refine z_drop hJ [0, 1, 2, 3, 4] rfl ?_
            have e := ih (by omega)
            rw [q_lyr, if_neg (by rw [hok]; decide), q_lay_f hok] at e
            exact e
          · skip
            try dsimp only at c_61
            refine z_lload hJ d_Mo_lays_64 5 rfl ?_
            refine z_ldc2 hJ d_Mo_lays_66 c_Mo_317 ?_
            refine z_lcmp hJ d_Mo_lays_69 ?_
            refine z_if_gt hJ d_Mo_lays_70 (fun c_70 => ?_) (fun c_70 => ?_)
            · skip
              try dsimp only at c_70
              have hok : q_ok ((ss k).2.2 j) = false := by unfold q_ok; rw [decide_eq_true c_70]; simp
              refine z_iinc (v := nI (j + 1)) (lv' := [(0, _), (1, _), (2, _), (3, _), (4, _), (5, _)]) hJ d_Mo_lays_86 4 rfl (zinc _) (by decide) rfl ?_
              refine z_goto hJ d_Mo_lays_89 ?_
              refine z_drop hJ [0, 1, 2, 3, 4] rfl ?_
              have e := ih (by omega)
              rw [q_lyr, if_neg (by rw [hok]; decide), q_lay_f hok] at e
              exact e
            · skip
              try dsimp only at c_70
              have hok : q_ok ((ss k).2.2 j) = true := by unfold q_ok; rw [decide_eq_false c_61, decide_eq_false c_70]; rfl
              refine z_aload_n hJ d_Mo_lays_73 0 rfl ?_
              refine z_iload hJ d_Mo_lays_74 4 rfl ?_
              refine z_iconst (v := 2) hJ d_Mo_lays_76 (by decide) ?_
              refine z_lload hJ d_Mo_lays_77 5 rfl ?_
              refine z_l2i hJ d_Mo_lays_79 ?_
              refine z_callVv hJ (m_Mo_puts (p := j) (w := 2) (by omega) (by decide)) k_Mo_56 zL_mv d_Mo_lays_80 hc_Mo 0 rfl rfl rfl (Nat.le_of_ble_eq_true rfl) ⟨by decide, by decide⟩ ?_
              refine z_iinc (v := nI ((q_lay (ss k).2.2 (rg P) j).1 + 1)) (lv' := [(0, _), (1, _), (2, _), (3, _), (4, _), (5, _)]) hJ d_Mo_lays_83 3 rfl (zinc _) (by decide) rfl ?_
              refine z_iinc (v := nI (j + 1)) (lv' := [(0, _), (1, _), (2, _), (3, _), (4, _), (5, _)]) hJ d_Mo_lays_86 4 rfl (zinc _) (by decide) rfl ?_
              refine z_goto hJ d_Mo_lays_89 ?_
              refine z_drop hJ [0, 1, 2, 3, 4] rfl ?_
              have e := ih (by omega)
              rw [q_lyr, if_pos hok, q_lay_t hok] at e
              exact e
    exact L21 0 (Nat.zero_le _)
  · have hq := q_in_sh_t hk
    have hcl : (nI k).toNatClampNeg = k := nI_clamp (by omega)
    refine z_aload_n hJ d_Mo_lays_0 0 rfl ?_
    refine z_iload_n hJ d_Mo_lays_1 1 rfl ?_
    refine z_callVi hJ (m_Mo_badSheet_m hk h0) k_Mo_314 zL.id d_Mo_lays_2 hc_Mo 0 rfl rfl rfl (Nat.le_of_ble_eq_true rfl) ⟨by decide, by decide⟩ ?_
    refine z_istore_n (lv' := [(0, _), (1, _), (2, _)]) hJ d_Mo_lays_5 (by decide) rfl ?_
    refine z_iload_n hJ d_Mo_lays_6 2 rfl ?_
    refine z_if_eq hJ d_Mo_lays_7 (fun c => absurd c (by decide)) (fun _ => ?_)
    refine z_aload_n hJ d_Mo_lays_10 0 rfl ?_
    refine z_iload_n hJ d_Mo_lays_11 2 rfl ?_
    refine z_callVi hJ m_Mo_finds_5 k_Mo_67 zL_mv d_Mo_lays_12 hc_Mo 0 rfl rfl rfl (Nat.le_of_ble_eq_true rfl) ⟨by decide, by decide⟩ ?_
    exact z_ri hR d_Mo_lays_15 (by simp [p_lays, hq, hcl, h0]) (by simp [p_lays, hq, hcl, h0])
  · skip
    refine z_aload_n hJ d_Mo_lays_0 0 rfl ?_
    refine z_iload_n hJ d_Mo_lays_1 1 rfl ?_
    refine z_callVi hJ (m_Mo_badSheet_b hq) k_Mo_314 zL.id d_Mo_lays_2 hc_Mo 0 rfl rfl rfl (Nat.le_of_ble_eq_true rfl) ⟨by decide, by decide⟩ ?_
    refine z_istore_n (lv' := [(0, _), (1, _), (2, _)]) hJ d_Mo_lays_5 (by decide) rfl ?_
    refine z_iload_n hJ d_Mo_lays_6 2 rfl ?_
    refine z_if_eq hJ d_Mo_lays_7 (fun c => absurd c (by decide)) (fun _ => ?_)
    refine z_aload_n hJ d_Mo_lays_10 0 rfl ?_
    refine z_iload_n hJ d_Mo_lays_11 2 rfl ?_
    refine z_callVi hJ m_Mo_finds_0 k_Mo_67 zL_mv d_Mo_lays_12 hc_Mo 0 rfl rfl rfl (Nat.le_of_ble_eq_true rfl) ⟨by decide, by decide⟩ ?_
    exact z_ri hR d_Mo_lays_15 (by simp [p_lays, hq]; try rfl) (by simp [p_lays, hq])
set_option maxRecDepth 100000 in
theorem m_Mo_book {g : Nat → Nat → Nat} {a : Nat → Nat} {x0 : Nat → Int32} {x1 : Nat → Int32} {x3 : Nat → Int32} {x4 : Nat → Int32} {x5 : Nat → Int64} {x6 : Nat → Int32} {x7 : Nat} {x8 : Int32} {x9 : Nat} {x10 : Nat} {x11 : Int64} {x12 : Int32} {x13 : Bool} {x17 : Nat → Int64} {x18 : Nat → Int32} {x19 : Nat → Int32} {x20 : Bool} {ss : Nat → SS} {P : RS} {s : Int32} (hR0 : zRo P x0) (hP : zPi P) (hG : zRg P) (hss : ∀ k, k < 4 → (ss k).2.1 ≤ 40) : zM g y_Mo_book b_Mo_book 4 (some .int) 8 [.ref (a 0), .int s] (mV g a x0 x1 127 x3 x4 x5 x6 x7 x8 x9 x10 x11 x12 x13 (q_b14 ss) (q_b15 ss) (q_b16 ss) x17 x18 x19 x20) [.int (p_book x1 P P ss s).1] (mV g a x0 ((p_book x1 P P ss s).2.1) 127 (if q_in s 0 3 && decide (¬ (ss s.toNatClampNeg).1 = 0) then x0 else x3) x4 x5 x6 x7 x8 x9 x10 x11 x12 x13 (q_b14 (p_book x1 P P ss s).2.2.2) (q_b15 (p_book x1 P P ss s).2.2.2) (q_b16 (p_book x1 P P ss s).2.2.2) x17 x18 x19 x20) := by
  refine zMi (lv := [(0, .ref (a 0)), (1, .int s)]) (by decide) (Nat.le_of_ble_eq_true rfl) rfl (fun J hJ hR => ?_)
  rcases q_bad_or ss s with ⟨k, hk, rfl, h0⟩ | ⟨k, hk, rfl, h0⟩ | hq
  · have hq := q_in_sh_t hk
    have hcl : (nI k).toNatClampNeg = k := nI_clamp (by omega)
    have hsk := hss k hk
    have hj7 := hP.1
    have hj8 := hP.2.1
    refine z_aload_n hJ d_Mo_book_0 0 rfl ?_
    refine z_iload_n hJ d_Mo_book_1 1 rfl ?_
    refine z_callVi hJ (m_Mo_badSheet_0 hk h0) k_Mo_314 zL.id d_Mo_book_2 hc_Mo 0 rfl rfl rfl (Nat.le_of_ble_eq_true rfl) ⟨by decide, by decide⟩ ?_
    refine z_istore_n (lv' := [(0, _), (1, _), (2, _)]) hJ d_Mo_book_5 (by decide) rfl ?_
    refine z_iload_n hJ d_Mo_book_6 2 rfl ?_
    refine z_if_eq hJ d_Mo_book_7 (fun _ => ?_) (fun c => absurd c (by decide))
    refine z_aload_n hJ d_Mo_book_16 0 rfl ?_
    refine z_iconst (v := 1) hJ d_Mo_book_17 (by decide) ?_
    refine z_aload_n hJ d_Mo_book_18 0 rfl ?_
    refine z_get hJ d_Mo_book_19 hc_Mo f_Mo_20 0 rfl rfl (by decide) ?_
    refine z_callVv hJ m_Mo_moveAll_tried_k k_Mo_155 zL.id d_Mo_book_22 hc_Mo 0 rfl rfl rfl (Nat.le_of_ble_eq_true rfl) ⟨by decide, by decide⟩ ?_
    refine z_iconst (v := 0) hJ d_Mo_book_25 (by decide) ?_
    refine z_istore_n (lv' := [(0, _), (1, _), (2, _), (3, _)]) hJ d_Mo_book_26 (by decide) rfl ?_
    have L27 : ∀ j : Nat, j ≤ (ss k).2.1 → J (mV g a (q_hrN x0 P.2.1 j) x1 127 x0 x4 x5 x6 x7 x8 x9 x10 x11 x12 x13 (q_b14 ss) (q_b15 ss) (q_b16 (q_ssU ss k ((ss k).1, (ss k).2.1, q_bk P (ss k) j))) x17 x18 x19 x20) 27 [(0, .ref (a 0)), (1, .int (nI k)), (2, .int 0), (3, .int (nI j))] [] := by
      refine zloop ((ss k).2.1) (fun j hjN ih => ?_)
      refine z_iload_n hJ d_Mo_book_27 3 rfl ?_
      refine z_aload_n hJ d_Mo_book_28 0 rfl ?_
      refine z_get hJ d_Mo_book_29 hc_Mo f_Mo_36 0 rfl rfl (by decide) ?_
      refine z_iload_n hJ d_Mo_book_32 1 rfl ?_
      refine z_iald hJ d_Mo_book_33 8 (k) rfl rfl (by omega) (by decide) ?_
      refine z_c (y := nI (ss k).2.1) rfl ?_
      refine z_icmp_ge hJ d_Mo_book_34 (fun c_34 => ?_) (fun c_34 => ?_)
      · skip
        try dsimp only at c_34
        have h_34 : (ss k).2.1 ≤ j := by
          have e := nI_leI (a := (ss k).2.1) (b := j) (by omega) (by omega)
          exact e.mp c_34
        have hjn : j = (ss k).2.1 := by omega
        refine z_aload_n hJ d_Mo_book_72 0 rfl ?_
        refine z_iconst (v := 0) hJ d_Mo_book_73 (by decide) ?_
        refine z_aload_n hJ d_Mo_book_74 0 rfl ?_
        refine z_get hJ d_Mo_book_75 hc_Mo f_Mo_20 0 rfl rfl (by decide) ?_
        refine z_callVv hJ m_Mo_moveAll_tried_b k_Mo_155 zL.id d_Mo_book_78 hc_Mo 0 rfl rfl rfl (Nat.le_of_ble_eq_true rfl) ⟨by decide, by decide⟩ ?_
        refine z_aload_n hJ d_Mo_book_81 0 rfl ?_
        refine z_get hJ d_Mo_book_82 hc_Mo f_Mo_36 0 rfl rfl (by decide) ?_
        refine z_iload_n hJ d_Mo_book_85 1 rfl ?_
        refine z_iald hJ d_Mo_book_86 8 (k) rfl rfl (by omega) (by decide) ?_
        refine z_c (y := nI (ss k).2.1) rfl ?_
        exact z_ri hR d_Mo_book_87 (by simp [p_book, hq, hcl, h0]) (by
          have e : p_book x1 P P ss (nI k) = (nI (ss k).2.1, x1, q_it P (ss k).2.1, q_ssU ss k ((ss k).1, (ss k).2.1, q_bk P (ss k) (ss k).2.1)) := by simp [p_book, hq, hcl, h0]
          rw [e, hjn, hq, hcl, decide_eq_true h0, q_b14_s, q_b15_s]; rfl)
      · skip
        try dsimp only at c_34
        have h_34 : ¬ ((ss k).2.1 ≤ j) := by
          have e := nI_leI (a := (ss k).2.1) (b := j) (by omega) (by omega)
          exact fun q => c_34 (e.mpr q)
        refine z_aload_n hJ d_Mo_book_37 0 rfl ?_
        refine z_get hJ d_Mo_book_38 hc_Mo f_Mo_39 0 rfl rfl (by decide) ?_
        refine z_bipush (v := 40) hJ d_Mo_book_41 (by decide) ?_
        refine z_iload_n hJ d_Mo_book_43 1 rfl ?_
        refine z_imul hJ d_Mo_book_44 ?_
        refine z_iload_n hJ d_Mo_book_45 3 rfl ?_
        refine z_iadd hJ d_Mo_book_46 ?_
        refine z_c (z40 k j) ?_
        refine z_aload_n hJ d_Mo_book_47 0 rfl ?_
        refine z_get hJ d_Mo_book_48 hc_Mo f_Mo_33 0 rfl rfl (by decide) ?_
        refine z_iload_n hJ d_Mo_book_51 1 rfl ?_
        refine z_iald hJ d_Mo_book_52 7 (k) rfl rfl (by omega) (by decide) ?_
        refine z_c (y := (ss k).1) rfl ?_
        refine z_aload_n hJ d_Mo_book_53 0 rfl ?_
        refine z_callVi hJ (m_Mo_earned7 (P := q_hN P j) (M := (q_hrN x0 P.2.1 j, x1, 127, x0, x4, x5, x6, x7, x8, x9, x10, x11, x12, x13, q_b14 ss, q_b15 ss, q_b16 (q_ssU ss k ((ss k).1, (ss k).2.1, q_bk P (ss k) j)), x17, x18, x19, x20)) (hR0.hN hP.1 j) (hP.hN j) (hG.hN j) rfl) k_Mo_135 zL_mv d_Mo_book_54 hc_Mo 0 rfl rfl rfl (Nat.le_of_ble_eq_true rfl) ⟨by decide, by decide⟩ ?_
        refine z_c (y := q_ew P j) (q_ew_N P j) ?_
        refine z_i2l hJ d_Mo_book_57 ?_
        refine z_callSl hJ m_Mo_narrow k_Mo_307 zL.nil d_Mo_book_58 rfl rfl (Nat.le_of_ble_eq_true rfl) ⟨by decide, by decide⟩ ?_
        refine z_last (w' := mV g a (q_hrN x0 P.2.1 j) x1 127 x0 x4 x5 x6 x7 x8 x9 x10 x11 x12 x13 (q_b14 ss) (q_b15 ss) (vp_updL (q_b16 (q_ssU ss k ((ss k).1, (ss k).2.1, q_bk P (ss k) j))) (40 * k + j) (q_nar (ss k).1 (q_ew P j).toInt64)) x17 x18 x19 x20) hJ d_Mo_book_61 9 (40 * k + j) rfl rfl (by omega) (by decide) rfl ?_
        refine z_w (w' := mV g a (q_hrN x0 P.2.1 j) x1 127 x0 x4 x5 x6 x7 x8 x9 x10 x11 x12 x13 (q_b14 ss) (q_b15 ss) (q_b16 (q_ssU ss k ((ss k).1, (ss k).2.1, q_bk P (ss k) (j + 1)))) x17 x18 x19 x20) (by rw [q_b16_w ss k (ss k).1 (ss k).2.1 (q_bk P (ss k) j) (show j < 40 by omega)]; rfl) ?_
        refine z_aload_n hJ d_Mo_book_62 0 rfl ?_
        refine z_callVv hJ (m_Mo_oneHour ((q_hrN_1 x0 P.2.1 j).trans hR0.2.1) (by omega)) k_Mo_140 zL.id d_Mo_book_63 hc_Mo 0 rfl rfl rfl (Nat.le_of_ble_eq_true rfl) ⟨by decide, by decide⟩ ?_
        refine z_iinc (v := nI (j + 1)) (lv' := [(0, _), (1, _), (2, _), (3, _)]) hJ d_Mo_book_66 3 rfl (zinc _) (by decide) rfl ?_
        refine z_goto hJ d_Mo_book_69 ?_
        exact ih (by omega)
    have e := L27 0 (Nat.zero_le _)
    rw [show ((ss k).1, (ss k).2.1, q_bk P (ss k) 0) = ss k from rfl, q_ssU_id] at e
    exact e
  · have hq := q_in_sh_t hk
    have hcl : (nI k).toNatClampNeg = k := nI_clamp (by omega)
    refine z_aload_n hJ d_Mo_book_0 0 rfl ?_
    refine z_iload_n hJ d_Mo_book_1 1 rfl ?_
    refine z_callVi hJ (m_Mo_badSheet_m hk h0) k_Mo_314 zL.id d_Mo_book_2 hc_Mo 0 rfl rfl rfl (Nat.le_of_ble_eq_true rfl) ⟨by decide, by decide⟩ ?_
    refine z_istore_n (lv' := [(0, _), (1, _), (2, _)]) hJ d_Mo_book_5 (by decide) rfl ?_
    refine z_iload_n hJ d_Mo_book_6 2 rfl ?_
    refine z_if_eq hJ d_Mo_book_7 (fun c => absurd c (by decide)) (fun _ => ?_)
    refine z_aload_n hJ d_Mo_book_10 0 rfl ?_
    refine z_iload_n hJ d_Mo_book_11 2 rfl ?_
    refine z_callVi hJ m_Mo_finds_5 k_Mo_67 zL_mv d_Mo_book_12 hc_Mo 0 rfl rfl rfl (Nat.le_of_ble_eq_true rfl) ⟨by decide, by decide⟩ ?_
    exact z_ri hR d_Mo_book_15 (by simp [p_book, hq, hcl, h0]) (by simp [p_book, hq, hcl, h0])
  · skip
    refine z_aload_n hJ d_Mo_book_0 0 rfl ?_
    refine z_iload_n hJ d_Mo_book_1 1 rfl ?_
    refine z_callVi hJ (m_Mo_badSheet_b hq) k_Mo_314 zL.id d_Mo_book_2 hc_Mo 0 rfl rfl rfl (Nat.le_of_ble_eq_true rfl) ⟨by decide, by decide⟩ ?_
    refine z_istore_n (lv' := [(0, _), (1, _), (2, _)]) hJ d_Mo_book_5 (by decide) rfl ?_
    refine z_iload_n hJ d_Mo_book_6 2 rfl ?_
    refine z_if_eq hJ d_Mo_book_7 (fun c => absurd c (by decide)) (fun _ => ?_)
    refine z_aload_n hJ d_Mo_book_10 0 rfl ?_
    refine z_iload_n hJ d_Mo_book_11 2 rfl ?_
    refine z_callVi hJ m_Mo_finds_0 k_Mo_67 zL_mv d_Mo_book_12 hc_Mo 0 rfl rfl rfl (Nat.le_of_ble_eq_true rfl) ⟨by decide, by decide⟩ ?_
    exact z_ri hR d_Mo_book_15 (by simp [p_book, hq]; try rfl) (by simp [p_book, hq])
