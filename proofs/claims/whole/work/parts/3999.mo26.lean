theorem zB_one {b : Bool} (h : zB b = 1) : b = true := by
  cases b
  · exact absurd h (by decide)
  · rfl
theorem zB_none {b : Bool} (h : ¬ zB b = 1) : b = false := by
  cases b
  · rfl
  · exact absurd rfl h
def q_sof (P : RS) (S : SS) (t : Nat) : Bool := (q_isMet P (q_awk P) t == !decide (lg_cmp (S.2.2 t) 0 = 0))
def q_setZ (P : RS) (z : Nat) : RS := (P.1, P.2.1, P.2.2.1, z, rk P, rm P, rg P, rs P, rso P, rtm P, rne P, rpa P)
def q_zI (n : Nat) (x0 F : Nat → Int32) : Prop := ∀ x, x < 70 → (∀ p, p < n → ¬ x = 3 + 5 * p + 4) → F x = x0 x
theorem zRo.setZ {P : RS} {x0 F : Nat → Int32} {z : Nat} (h : zRo P x0) (hP : P.2.1 ≤ 7) (ha : P.2.2.2.1 < 2 ^ P.2.1) (hz : z < 2 ^ P.2.1) (hF : q_zI P.2.1 x0 F) (hB : ∀ p, p < P.2.1 → F (3 + 5 * p + 4) = zB (z.testBit p)) : zRo (q_setZ P z) F := by
  refine ⟨(hF 0 (by decide) (fun p hp => by omega)).trans h.1, (hF 1 (by decide) (fun p hp => by omega)).trans h.2.1, (hF 2 (by decide) (fun p hp => by omega)).trans h.2.2.1, fun q hq => ⟨(hF _ (by omega) (fun p hp => by omega)).trans (h.2.2.2.1 q hq).1, (hF _ (by omega) (fun p hp => by omega)).trans (h.2.2.2.1 q hq).2.1, (hF _ (by omega) (fun p hp => by omega)).trans (h.2.2.2.1 q hq).2.2.1, (hF _ (by omega) (fun p hp => by omega)).trans (h.2.2.2.1 q hq).2.2.2.1, ?_⟩, fun t ht => ⟨(hF _ (by omega) (fun p hp => by omega)).trans (h.2.2.2.2 t ht).1, (hF _ (by omega) (fun p hp => by omega)).trans (h.2.2.2.2 t ht).2.1, (hF _ (by omega) (fun p hp => by omega)).trans (h.2.2.2.2 t ht).2.2.1, (hF _ (by omega) (fun p hp => by omega)).trans (h.2.2.2.2 t ht).2.2.2⟩⟩
  show F (3 + 5 * q + 4) = zB (z.testBit q)
  by_cases hn : q < P.2.1
  · exact hB q hn
  · have hp2 : 2 ^ P.2.1 ≤ 2 ^ q := Nat.pow_le_pow_right (by decide) (by omega)
    rw [(hF _ (by omega) (fun p hp => by omega)).trans (h.2.2.2.1 q hq).2.2.2.2, Nat.testBit_lt_two_pow (Nat.lt_of_lt_of_le ha hp2), Nat.testBit_lt_two_pow (Nat.lt_of_lt_of_le hz hp2)]
theorem zRg.setZ {P : RS} {z : Nat} (h : zRg P) (hz : z < 2 ^ P.2.1) : zRg (q_setZ P z) := ⟨hz, h.2.1, h.2.2.1, h.2.2.2⟩
theorem q_near_Z (P : RS) (z aw i : Nat) (sp : Int32) : ∀ n, q_near (q_setZ P z) aw i sp n = q_near P aw i sp n
  | 0 => rfl
  | n + 1 => by rw [q_near, q_near, q_near_Z P z aw i sp n]; rfl
theorem q_isMet_Z (P : RS) (z aw t : Nat) : q_isMet (q_setZ P z) aw t = q_isMet P aw t := by
  have e1 : ∀ i, q_spoilt (q_setZ P z) aw i = q_spoilt P aw i := fun i => by
    unfold q_spoilt
    rw [show q_spo (rk (q_setZ P z) i) = q_spo (rk P i) from rfl, q_near_Z]
    rfl
  have e2 : q_spm (q_setZ P z) aw = q_spm P aw := by
    unfold q_spm
    rw [show (fun i => q_spoilt (q_setZ P z) aw i) = (fun i => q_spoilt P aw i) from funext e1]
    rfl
  unfold q_isMet
  rw [e2]
  rfl
theorem q_allb_iff {f : Nat → Bool} {n : Nat} : (q_allb f n = true ↔ ∀ k, k < n → f k = true) := by
  refine ⟨fun h k hk => ?_, q_allb_t⟩
  rcases Bool.eq_false_or_eq_true (f k) with q | q
  · exact q
  · rw [q_allb_f q n hk] at h
    exact absurd h (by decide)
theorem q_so_m {P : RS} {S : SS} {z : Nat} (h8 : P.2.2.1 ≤ 8) : q_allb (q_sof (q_setZ P z) S) (min S.2.1 P.2.2.1) = q_so P S z := by
  have hf : ∀ t, q_sof (q_setZ P z) S t = (q_isMet P (q_all P &&& q_not z) t == !decide (lg_cmp (S.2.2 t) 0 = 0)) := fun t => by
    unfold q_sof
    rw [q_isMet_Z]
    rfl
  have tb : ∀ t, (q_metS P (q_all P &&& q_not z) &&& q_told P S).testBit t = (decide (t < min S.2.1 P.2.2.1) && q_isMet P (q_all P &&& q_not z) t) ∧ (q_nz S &&& q_told P S).testBit t = (decide (t < min S.2.1 P.2.2.1) && !decide (lg_cmp (S.2.2 t) 0 = 0)) := by
    intro t
    rw [Nat.testBit_and, Nat.testBit_and]
    unfold q_told q_metS q_nz
    rw [Nat.testBit_two_pow_sub_one, q_mask_tb, q_mask_tb]
    by_cases ht : t < min S.2.1 P.2.2.1
    · rw [decide_eq_true ht, decide_eq_true (show t < P.2.2.1 by omega), decide_eq_true (show t < min S.2.1 8 by omega)]
      simp
    · rw [decide_eq_false ht]
      simp
  unfold q_so
  by_cases hc : q_metS P (q_all P &&& q_not z) &&& q_told P S = q_nz S &&& q_told P S
  · rw [decide_eq_true hc, q_allb_iff]
    intro t ht
    rw [hf]
    have e := congrArg (fun x => x.testBit t) hc
    rw [(tb t).1, (tb t).2, decide_eq_true ht, Bool.true_and, Bool.true_and] at e
    rw [e]
    simp
  · rw [decide_eq_false hc]
    rcases Bool.eq_false_or_eq_true (q_allb (q_sof (q_setZ P z) S) (min S.2.1 P.2.2.1)) with q | q
    · exfalso
      apply hc
      rw [q_allb_iff] at q
      apply Nat.eq_of_testBit_eq
      intro t
      rw [(tb t).1, (tb t).2]
      by_cases ht : t < min S.2.1 P.2.2.1
      · have e := q t ht
        rw [hf, beq_iff_eq] at e
        rw [e]
      · rw [decide_eq_false ht]
        rfl
    · exact q
theorem zbitB (z p : Nat) : nI (z / 2 ^ p % 2) = zB (z.testBit p) := by
  rw [Nat.testBit_eq_decide_div_mod_eq]
  have h : z / 2 ^ p % 2 = 0 ∨ z / 2 ^ p % 2 = 1 := by omega
  rcases h with e | e <;> rw [e] <;> rfl
set_option maxRecDepth 100000 in
theorem m_Mo_isSo {g : Nat → Nat → Nat} {a : Nat → Nat} {x0 : Nat → Int32} {x1 : Nat → Int32} {x3 : Nat → Int32} {x4 : Nat → Int32} {x5 : Nat → Int64} {x6 : Nat → Int32} {x7 : Nat} {x8 : Int32} {x9 : Nat} {x10 : Nat} {x11 : Int64} {x12 : Int32} {x13 : Bool} {x17 : Nat → Int64} {x18 : Nat → Int32} {x19 : Nat → Int32} {x20 : Bool} {ss : Nat → SS} {P : RS} {k : Nat} (hR0 : zRo P x0) (hP : zPi P) (hG : zRg P) (hss : ∀ k, k < 4 → (ss k).2.1 ≤ 40) (hk : k < 4) : zM g y_Mo_isSo b_Mo_isSo 4 (some .boolean) 7 [.ref (a 0), .int (nI k)] (mV g a x0 x1 127 x3 x4 x5 x6 x7 x8 x9 x10 x11 x12 x13 (q_b14 ss) (q_b15 ss) (q_b16 ss) x17 x18 x19 x20) [.int (zB (q_allb (q_sof P (ss k)) (min (ss k).2.1 P.2.2.1)))] (mV g a x0 x1 127 x3 x4 x5 x6 x7 x8 x9 x10 x11 x12 x13 (q_b14 ss) (q_b15 ss) (q_b16 ss) x17 x18 x19 x20) := by
  have hj7 := hP.1
  have hj8 := hP.2.1
  have hsk := hss k hk
  refine zMz (lv := [(0, .ref (a 0)), (1, .int (nI k))]) (by decide) (Nat.le_of_ble_eq_true rfl) rfl (fun J hJ hR => ?_)
  refine z_iconst (v := 1) hJ d_Mo_isSo_0 (by decide) ?_
  refine z_istore_n (lv' := [(0, _), (1, _), (2, _)]) hJ d_Mo_isSo_1 (by decide) rfl ?_
  refine z_iconst (v := 0) hJ d_Mo_isSo_2 (by decide) ?_
  refine z_istore_n (lv' := [(0, _), (1, _), (2, _), (3, _)]) hJ d_Mo_isSo_3 (by decide) rfl ?_
  have L4 : ∀ j : Nat, j ≤ (min (ss k).2.1 P.2.2.1) → J (mV g a x0 x1 127 x3 x4 x5 x6 x7 x8 x9 x10 x11 x12 x13 (q_b14 ss) (q_b15 ss) (q_b16 ss) x17 x18 x19 x20) 4 [(0, .ref (a 0)), (1, .int (nI k)), (2, .int (zB (q_allb (q_sof P (ss k)) j))), (3, .int (nI j))] [] := by
    refine zloop ((min (ss k).2.1 P.2.2.1)) (fun j hjN ih => ?_)
    refine z_iload_n hJ d_Mo_isSo_4 3 rfl ?_
    refine z_aload_n hJ d_Mo_isSo_5 0 rfl ?_
    refine z_get hJ d_Mo_isSo_6 hc_Mo f_Mo_36 0 rfl rfl (by decide) ?_
    refine z_iload_n hJ d_Mo_isSo_9 1 rfl ?_
    refine z_iald hJ d_Mo_isSo_10 8 (k) rfl rfl (by omega) (by decide) ?_
    refine z_c (y := nI (ss k).2.1) rfl ?_
    refine z_icmp_ge hJ d_Mo_isSo_11 (fun c_11 => ?_) (fun c_11 => ?_)
    · skip
      try dsimp only at c_11
      have h_11 : (ss k).2.1 ≤ j := by
        have e := nI_leI (a := (ss k).2.1) (b := j) (by omega) (by omega)
        exact e.mp c_11
      have hjn : j = (min (ss k).2.1 P.2.2.1) := by omega
      refine z_iload_n hJ d_Mo_isSo_69 2 rfl ?_
      exact z_ri hR d_Mo_isSo_70 (by rw [hjn]) rfl
    · skip
      try dsimp only at c_11
      have h_11 : ¬ ((ss k).2.1 ≤ j) := by
        have e := nI_leI (a := (ss k).2.1) (b := j) (by omega) (by omega)
        exact fun q => c_11 (e.mpr q)
      refine z_iload_n hJ d_Mo_isSo_14 3 rfl ?_
      refine z_aload_n hJ d_Mo_isSo_15 0 rfl ?_
      refine z_get hJ d_Mo_isSo_16 hc_Mo f_Mo_7 0 rfl rfl (by decide) ?_
      refine z_iconst (v := 2) hJ d_Mo_isSo_19 (by decide) ?_
      refine z_iald hJ d_Mo_isSo_20 1 (2) rfl rfl (by decide) (by decide) ?_
      refine z_c (y := nI P.2.2.1) hR0.2.2.1 ?_
      refine z_icmp_ge hJ d_Mo_isSo_21 (fun c_21 => ?_) (fun c_21 => ?_)
      · skip
        try dsimp only at c_21
        have h_21 : P.2.2.1 ≤ j := by
          have e := nI_leI (a := P.2.2.1) (b := j) (by omega) (by omega)
          exact e.mp c_21
        have hjn : j = (min (ss k).2.1 P.2.2.1) := by omega
        refine z_iload_n hJ d_Mo_isSo_69 2 rfl ?_
        exact z_ri hR d_Mo_isSo_70 (by rw [hjn]) rfl
      · skip
        try dsimp only at c_21
        have h_21 : ¬ (P.2.2.1 ≤ j) := by
          have e := nI_leI (a := P.2.2.1) (b := j) (by omega) (by omega)
          exact fun q => c_21 (e.mpr q)
        refine z_iload_n hJ d_Mo_isSo_24 2 rfl ?_
        refine zb_eq hJ d_Mo_isSo_25 (fun c_25 => ?_) (fun c_25 => ?_)
        · skip
          try dsimp only at c_25
          refine z_iconst (v := 0) hJ d_Mo_isSo_61 (by decide) ?_
          refine z_istore_n (lv' := [(0, _), (1, _), (2, _), (3, _)]) hJ d_Mo_isSo_62 (by decide) rfl ?_
          refine z_iinc (v := nI (j + 1)) (lv' := [(0, _), (1, _), (2, _), (3, _)]) hJ d_Mo_isSo_63 3 rfl (zinc _) (by decide) rfl ?_
          refine z_goto hJ d_Mo_isSo_66 ?_
          have e := ih (by omega)
          refine z_lv ?_ e
          rw [show q_allb (q_sof P (ss k)) (j + 1) = false from ?_]
          · rfl
          · rw [q_allb, c_25]; rfl
        · skip
          try dsimp only at c_25
          refine z_aload_n hJ d_Mo_isSo_28 0 rfl ?_
          refine z_iload_n hJ d_Mo_isSo_29 3 rfl ?_
          refine z_callVi hJ (m_Mo_isMet7 (M := (x0, x1, 127, x3, x4, x5, x6, x7, x8, x9, x10, x11, x12, x13, q_b14 ss, q_b15 ss, q_b16 ss, x17, x18, x19, x20)) hR0 hP hG rfl (by omega)) k_Mo_129 zL_mv d_Mo_isSo_30 hc_Mo 0 rfl rfl rfl (Nat.le_of_ble_eq_true rfl) ⟨by decide, by decide⟩ ?_
          refine z_aload_n hJ d_Mo_isSo_33 0 rfl ?_
          refine z_get hJ d_Mo_isSo_34 hc_Mo f_Mo_39 0 rfl rfl (by decide) ?_
          refine z_bipush (v := 40) hJ d_Mo_isSo_37 (by decide) ?_
          refine z_iload_n hJ d_Mo_isSo_39 1 rfl ?_
          refine z_imul hJ d_Mo_isSo_40 ?_
          refine z_iload_n hJ d_Mo_isSo_41 3 rfl ?_
          refine z_iadd hJ d_Mo_isSo_42 ?_
          refine z_c (z40 k j) ?_
          refine z_lald hJ d_Mo_isSo_43 9 (40 * k + j) rfl rfl (by omega) (by decide) ?_
          refine z_cl (y := (ss k).2.2 j) (q_b16_at ss (by omega)) ?_
          refine z_lconst (v := 0) hJ d_Mo_isSo_44 (by decide) ?_
          refine z_lcmp hJ d_Mo_isSo_45 ?_
          refine z_if_eq hJ d_Mo_isSo_46 (fun c_46 => ?_) (fun c_46 => ?_)
          · skip
            try dsimp only at c_46
            refine z_iconst (v := 0) hJ d_Mo_isSo_53 (by decide) ?_
            refine z_icmp_ne hJ d_Mo_isSo_54 (fun c_54 => ?_) (fun c_54 => ?_)
            · skip
              try dsimp only at c_54
              refine z_iconst (v := 0) hJ d_Mo_isSo_61 (by decide) ?_
              refine z_istore_n (lv' := [(0, _), (1, _), (2, _), (3, _)]) hJ d_Mo_isSo_62 (by decide) rfl ?_
              refine z_iinc (v := nI (j + 1)) (lv' := [(0, _), (1, _), (2, _), (3, _)]) hJ d_Mo_isSo_63 3 rfl (zinc _) (by decide) rfl ?_
              refine z_goto hJ d_Mo_isSo_66 ?_
              have e := ih (by omega)
              refine z_lv ?_ e
              rw [show q_allb (q_sof P (ss k)) (j + 1) = false from ?_]
              · rfl
              · rw [q_allb, c_25, q_sof, zB_1 c_54, decide_eq_true c_46]; rfl
            · skip
              try dsimp only at c_54
              refine z_iconst (v := 1) hJ d_Mo_isSo_57 (by decide) ?_
              refine z_goto hJ d_Mo_isSo_58 ?_
              refine z_istore_n (lv' := [(0, _), (1, _), (2, _), (3, _)]) hJ d_Mo_isSo_62 (by decide) rfl ?_
              refine z_iinc (v := nI (j + 1)) (lv' := [(0, _), (1, _), (2, _), (3, _)]) hJ d_Mo_isSo_63 3 rfl (zinc _) (by decide) rfl ?_
              refine z_goto hJ d_Mo_isSo_66 ?_
              have e := ih (by omega)
              refine z_lv ?_ e
              rw [show q_allb (q_sof P (ss k)) (j + 1) = true from ?_]
              · rfl
              · rw [q_allb, c_25, q_sof, zB_0 c_54, decide_eq_true c_46]; rfl
          · skip
            try dsimp only at c_46
            refine z_iconst (v := 1) hJ d_Mo_isSo_49 (by decide) ?_
            refine z_goto hJ d_Mo_isSo_50 ?_
            refine z_icmp_ne hJ d_Mo_isSo_54 (fun c_54 => ?_) (fun c_54 => ?_)
            · skip
              try dsimp only at c_54
              refine z_iconst (v := 0) hJ d_Mo_isSo_61 (by decide) ?_
              refine z_istore_n (lv' := [(0, _), (1, _), (2, _), (3, _)]) hJ d_Mo_isSo_62 (by decide) rfl ?_
              refine z_iinc (v := nI (j + 1)) (lv' := [(0, _), (1, _), (2, _), (3, _)]) hJ d_Mo_isSo_63 3 rfl (zinc _) (by decide) rfl ?_
              refine z_goto hJ d_Mo_isSo_66 ?_
              have e := ih (by omega)
              refine z_lv ?_ e
              rw [show q_allb (q_sof P (ss k)) (j + 1) = false from ?_]
              · rfl
              · rw [q_allb, c_25, q_sof, zB_none c_54, decide_eq_false c_46]; rfl
            · skip
              try dsimp only at c_54
              refine z_iconst (v := 1) hJ d_Mo_isSo_57 (by decide) ?_
              refine z_goto hJ d_Mo_isSo_58 ?_
              refine z_istore_n (lv' := [(0, _), (1, _), (2, _), (3, _)]) hJ d_Mo_isSo_62 (by decide) rfl ?_
              refine z_iinc (v := nI (j + 1)) (lv' := [(0, _), (1, _), (2, _), (3, _)]) hJ d_Mo_isSo_63 3 rfl (zinc _) (by decide) rfl ?_
              refine z_goto hJ d_Mo_isSo_66 ?_
              have e := ih (by omega)
              refine z_lv ?_ e
              rw [show q_allb (q_sof P (ss k)) (j + 1) = true from ?_]
              · rfl
              · rw [q_allb, c_25, q_sof, zB_one c_54, decide_eq_false c_46]; rfl
  exact L4 0 (Nat.zero_le _)
set_option maxRecDepth 100000 in
theorem m_Mo_read {g : Nat → Nat → Nat} {a : Nat → Nat} {x0 : Nat → Int32} {x1 : Nat → Int32} {x3 : Nat → Int32} {x4 : Nat → Int32} {x5 : Nat → Int64} {x6 : Nat → Int32} {x7 : Nat} {x8 : Int32} {x9 : Nat} {x10 : Nat} {x11 : Int64} {x12 : Int32} {x13 : Bool} {x17 : Nat → Int64} {x18 : Nat → Int32} {x19 : Nat → Int32} {x20 : Bool} {ss : Nat → SS} {P : RS} {s : Int32} (hR0 : zRo P x0) (hP : zPi P) (hG : zRg P) (hss : ∀ k, k < 4 → (ss k).2.1 ≤ 40) : zM g y_Mo_read b_Mo_read 6 (some .int) 8 [.ref (a 0), .int s] (mV g a x0 x1 127 x3 x4 x5 x6 x7 x8 x9 x10 x11 x12 x13 (q_b14 ss) (q_b15 ss) (q_b16 ss) x17 x18 x19 x20) [.int (p_read x1 P ss s).1] (mV g a x0 ((p_read x1 P ss s).2) 127 (if q_in s 0 3 && decide (¬ (ss s.toNatClampNeg).1 = 0) then x0 else x3) x4 x5 x6 x7 x8 x9 x10 x11 x12 x13 (q_b14 ss) (q_b15 ss) (q_b16 ss) x17 x18 x19 x20) := by
  refine zMi (lv := [(0, .ref (a 0)), (1, .int s)]) (by decide) (Nat.le_of_ble_eq_true rfl) rfl (fun J hJ hR => ?_)
  rcases q_bad_or ss s with ⟨k, hk, rfl, h0⟩ | ⟨k, hk, rfl, h0⟩ | hq
  · have hq := q_in_sh_t hk
    have hcl : (nI k).toNatClampNeg = k := nI_clamp (by omega)
    have hsk := hss k hk
    have hj7 := hP.1
    have hj8 := hP.2.1
    refine z_aload_n hJ d_Mo_read_0 0 rfl ?_
    refine z_iload_n hJ d_Mo_read_1 1 rfl ?_
    refine z_callVi hJ (m_Mo_badSheet_0 hk h0) k_Mo_314 zL.id d_Mo_read_2 hc_Mo 0 rfl rfl rfl (Nat.le_of_ble_eq_true rfl) ⟨by decide, by decide⟩ ?_
    refine z_istore_n (lv' := [(0, _), (1, _), (2, _)]) hJ d_Mo_read_5 (by decide) rfl ?_
    refine z_iload_n hJ d_Mo_read_6 2 rfl ?_
    refine z_if_eq hJ d_Mo_read_7 (fun _ => ?_) (fun c => absurd c (by decide))
    refine z_aload_n hJ d_Mo_read_16 0 rfl ?_
    refine z_iconst (v := 1) hJ d_Mo_read_17 (by decide) ?_
    refine z_aload_n hJ d_Mo_read_18 0 rfl ?_
    refine z_get hJ d_Mo_read_19 hc_Mo f_Mo_20 0 rfl rfl (by decide) ?_
    refine z_callVv hJ m_Mo_moveAll_tried_k k_Mo_155 zL.id d_Mo_read_22 hc_Mo 0 rfl rfl rfl (Nat.le_of_ble_eq_true rfl) ⟨by decide, by decide⟩ ?_
    refine z_iconst (v := 0) hJ d_Mo_read_25 (by decide) ?_
    refine z_istore_n (lv' := [(0, _), (1, _), (2, _), (3, _)]) hJ d_Mo_read_26 (by decide) rfl ?_
    refine z_iconst (v := 0) hJ d_Mo_read_27 (by decide) ?_
    refine z_istore (lv' := [(0, _), (1, _), (2, _), (3, _), (4, _)]) hJ d_Mo_read_28 (by decide) rfl ?_
    have L30 : ∀ z : Nat, z ≤ (2 ^ P.2.1) → ∀ F : Nat → Int32, q_zI P.2.1 x0 F → J (mV g a F x1 127 x0 x4 x5 x6 x7 x8 x9 x10 x11 x12 x13 (q_b14 ss) (q_b15 ss) (q_b16 ss) x17 x18 x19 x20) 30 [(0, .ref (a 0)), (1, .int (nI k)), (2, .int 0), (3, .int (nI (q_cnt (q_so P (ss k)) z))), (4, .int (nI z))] [] := by
      refine zloop ((2 ^ P.2.1)) (fun z hjN_z ih_z => ?_)
      intro F hF
      have h27 : 2 ^ P.2.1 ≤ 128 := Nat.pow_le_pow_right (n := 2) (by decide) hP.1
      have hF1 : F 1 = nI P.2.1 := (hF 1 (by decide) (fun p hp => by omega)).trans hR0.2.1
      refine z_iload hJ d_Mo_read_30 4 rfl ?_
      refine z_iconst (v := 1) hJ d_Mo_read_32 (by decide) ?_
      refine z_aload_n hJ d_Mo_read_33 0 rfl ?_
      refine z_get hJ d_Mo_read_34 hc_Mo f_Mo_7 0 rfl rfl (by decide) ?_
      refine z_iconst (v := 1) hJ d_Mo_read_37 (by decide) ?_
      refine z_iald hJ d_Mo_read_38 1 (1) rfl rfl (by decide) (by decide) ?_
      refine z_c (y := nI P.2.1) hF1 ?_
      refine z_ishl hJ d_Mo_read_39 ?_
      refine z_c (zshl1 (by omega)) ?_
      refine z_icmp_ge hJ d_Mo_read_40 (fun c_40 => ?_) (fun c_40 => ?_)
      · skip
        try dsimp only at c_40
        have h_40 : (2 ^ P.2.1) ≤ z := by
          have e := nI_leI (a := (2 ^ P.2.1)) (b := z) (by omega) (by omega)
          exact e.mp c_40
        have hzn : z = (2 ^ P.2.1) := by omega
        refine z_aload_n hJ d_Mo_read_99 0 rfl ?_
        refine z_iconst (v := 0) hJ d_Mo_read_100 (by decide) ?_
        refine z_aload_n hJ d_Mo_read_101 0 rfl ?_
        refine z_get hJ d_Mo_read_102 hc_Mo f_Mo_20 0 rfl rfl (by decide) ?_
        refine z_callVv hJ m_Mo_moveAll_tried_b k_Mo_155 zL.id d_Mo_read_105 hc_Mo 0 rfl rfl rfl (Nat.le_of_ble_eq_true rfl) ⟨by decide, by decide⟩ ?_
        refine z_iload_n hJ d_Mo_read_108 3 rfl ?_
        exact z_ri hR d_Mo_read_109 (by simp [p_read, hq, hcl, h0, hzn]) (by simp [p_read, hq, hcl, h0])
      · skip
        try dsimp only at c_40
        have h_40 : ¬ ((2 ^ P.2.1) ≤ z) := by
          have e := nI_leI (a := (2 ^ P.2.1)) (b := z) (by omega) (by omega)
          exact fun q => c_40 (e.mpr q)
        refine z_iconst (v := 0) hJ d_Mo_read_43 (by decide) ?_
        refine z_istore (lv' := [(0, _), (1, _), (2, _), (3, _), (4, _), (5, _)]) hJ d_Mo_read_44 (by decide) rfl ?_
        have L46 : ∀ j : Nat, j ≤ P.2.1 → ∀ F2 : Nat → Int32, q_zI P.2.1 x0 F2 → (∀ p, p < j → F2 (3 + 5 * p + 4) = zB (z.testBit p)) → J (mV g a F2 x1 127 x0 x4 x5 x6 x7 x8 x9 x10 x11 x12 x13 (q_b14 ss) (q_b15 ss) (q_b16 ss) x17 x18 x19 x20) 46 [(0, .ref (a 0)), (1, .int (nI k)), (2, .int 0), (3, .int (nI (q_cnt (q_so P (ss k)) z))), (4, .int (nI z)), (5, .int (nI j))] [] := by
          refine zloop (P.2.1) (fun j hjN ih => ?_)
          intro F2 hF2 hB
          have hF21 : F2 1 = nI P.2.1 := (hF2 1 (by decide) (fun p hp => by omega)).trans hR0.2.1
          refine z_iload hJ d_Mo_read_46 5 rfl ?_
          refine z_aload_n hJ d_Mo_read_48 0 rfl ?_
          refine z_get hJ d_Mo_read_49 hc_Mo f_Mo_7 0 rfl rfl (by decide) ?_
          refine z_iconst (v := 1) hJ d_Mo_read_52 (by decide) ?_
          refine z_iald hJ d_Mo_read_53 1 (1) rfl rfl (by decide) (by decide) ?_
          refine z_c (y := nI P.2.1) hF21 ?_
          refine z_icmp_ge hJ d_Mo_read_54 (fun c_54 => ?_) (fun c_54 => ?_)
          · skip
            try dsimp only at c_54
            have h_54 : P.2.1 ≤ j := by
              have e := nI_leI (a := P.2.1) (b := j) (by omega) (by omega)
              exact e.mp c_54
            have hjn : j = P.2.1 := by omega
            have hZ : zRo (q_setZ P z) F2 := hR0.setZ hP.1 hG.1 (by omega) hF2 (fun p hp => hB p (by omega))
            refine z_iload_n hJ d_Mo_read_77 3 rfl ?_
            refine z_aload_n hJ d_Mo_read_78 0 rfl ?_
            refine z_iload_n hJ d_Mo_read_79 1 rfl ?_
            refine z_callVi hJ (m_Mo_isSo (P := q_setZ P z) hZ ⟨hP.1, hP.2.1, by show z < 128; omega⟩ (hG.setZ (by omega)) hss hk) k_Mo_319 zL.id d_Mo_read_80 hc_Mo 0 rfl rfl rfl (Nat.le_of_ble_eq_true rfl) ⟨by decide, by decide⟩ ?_
            refine z_c (y := zB (q_so P (ss k) z)) (by rw [show (q_setZ P z).2.2.1 = P.2.2.1 from rfl, q_so_m hP.2.1]) ?_
            refine zb_eq hJ d_Mo_read_83 (fun c_83 => ?_) (fun c_83 => ?_)
            · skip
              try dsimp only at c_83
              refine z_iconst (v := 0) hJ d_Mo_read_90 (by decide) ?_
              refine z_iadd hJ d_Mo_read_91 ?_
              refine z_c (y := nI (q_cnt (q_so P (ss k)) z)) (Int32.add_zero _) ?_
              refine z_istore_n (lv' := [(0, _), (1, _), (2, _), (3, _), (4, _), (5, _)]) hJ d_Mo_read_92 (by decide) rfl ?_
              refine z_iinc (v := nI (z + 1)) (lv' := [(0, _), (1, _), (2, _), (3, _), (4, _), (5, _)]) hJ d_Mo_read_93 4 rfl (zinc _) (by decide) rfl ?_
              refine z_goto hJ d_Mo_read_96 ?_
              refine z_drop hJ [0, 1, 2, 3, 4] rfl ?_
              have e := ih_z (by omega) F2 hF2
              rw [q_cnt_f (f := q_so P (ss k)) c_83] at e
              exact e
            · skip
              try dsimp only at c_83
              refine z_iconst (v := 1) hJ d_Mo_read_86 (by decide) ?_
              refine z_goto hJ d_Mo_read_87 ?_
              refine z_iadd hJ d_Mo_read_91 ?_
              refine z_c (y := nI (q_cnt (q_so P (ss k)) z + 1)) (nI_add _ 1) ?_
              refine z_istore_n (lv' := [(0, _), (1, _), (2, _), (3, _), (4, _), (5, _)]) hJ d_Mo_read_92 (by decide) rfl ?_
              refine z_iinc (v := nI (z + 1)) (lv' := [(0, _), (1, _), (2, _), (3, _), (4, _), (5, _)]) hJ d_Mo_read_93 4 rfl (zinc _) (by decide) rfl ?_
              refine z_goto hJ d_Mo_read_96 ?_
              refine z_drop hJ [0, 1, 2, 3, 4] rfl ?_
              have e := ih_z (by omega) F2 hF2
              rw [q_cnt_t (f := q_so P (ss k)) c_83] at e
              exact e
          · skip
            try dsimp only at c_54
            have h_54 : ¬ (P.2.1 ≤ j) := by
              have e := nI_leI (a := P.2.1) (b := j) (by omega) (by omega)
              exact fun q => c_54 (e.mpr q)
            refine z_aload_n hJ d_Mo_read_57 0 rfl ?_
            refine z_iload hJ d_Mo_read_58 5 rfl ?_
            refine z_iconst (v := 4) hJ d_Mo_read_60 (by decide) ?_
            refine z_iload hJ d_Mo_read_61 4 rfl ?_
            refine z_iload hJ d_Mo_read_63 5 rfl ?_
            refine z_ishr hJ d_Mo_read_65 ?_
            refine z_iconst (v := 1) hJ d_Mo_read_66 (by decide) ?_
            refine z_iand hJ d_Mo_read_67 ?_
            refine z_c (y := zB (z.testBit j)) ((zbit1 (by omega) (by omega)).trans (zbitB z j)) ?_
            refine z_callVv hJ (m_Mo_puts (p := j) (w := 4) (by omega) (by decide)) k_Mo_56 zL_mv d_Mo_read_68 hc_Mo 0 rfl rfl rfl (Nat.le_of_ble_eq_true rfl) ⟨by decide, by decide⟩ ?_
            refine z_iinc (v := nI (j + 1)) (lv' := [(0, _), (1, _), (2, _), (3, _), (4, _), (5, _)]) hJ d_Mo_read_71 5 rfl (zinc _) (by decide) rfl ?_
            refine z_goto hJ d_Mo_read_74 ?_
            exact ih (by omega) _ (fun x hx hp => (upd_ne (hp j (by omega))).trans (hF2 x hx hp)) (fun p hp => by
              by_cases e : p = j
              · rw [e, upd_eq]
              · rw [upd_ne (by omega)]; exact hB p (by omega))
        exact L46 0 (Nat.zero_le _) F hF (fun p hp => absurd hp (Nat.not_lt_zero p))
    exact L30 0 (Nat.zero_le _) x0 (fun x hx hp => rfl)
  · have hq := q_in_sh_t hk
    have hcl : (nI k).toNatClampNeg = k := nI_clamp (by omega)
    refine z_aload_n hJ d_Mo_read_0 0 rfl ?_
    refine z_iload_n hJ d_Mo_read_1 1 rfl ?_
    refine z_callVi hJ (m_Mo_badSheet_m hk h0) k_Mo_314 zL.id d_Mo_read_2 hc_Mo 0 rfl rfl rfl (Nat.le_of_ble_eq_true rfl) ⟨by decide, by decide⟩ ?_
    refine z_istore_n (lv' := [(0, _), (1, _), (2, _)]) hJ d_Mo_read_5 (by decide) rfl ?_
    refine z_iload_n hJ d_Mo_read_6 2 rfl ?_
    refine z_if_eq hJ d_Mo_read_7 (fun c => absurd c (by decide)) (fun _ => ?_)
    refine z_aload_n hJ d_Mo_read_10 0 rfl ?_
    refine z_iload_n hJ d_Mo_read_11 2 rfl ?_
    refine z_callVi hJ m_Mo_finds_5 k_Mo_67 zL_mv d_Mo_read_12 hc_Mo 0 rfl rfl rfl (Nat.le_of_ble_eq_true rfl) ⟨by decide, by decide⟩ ?_
    exact z_ri hR d_Mo_read_15 (by simp [p_read, hq, hcl, h0]) (by simp [p_read, hq, hcl, h0])
  · skip
    refine z_aload_n hJ d_Mo_read_0 0 rfl ?_
    refine z_iload_n hJ d_Mo_read_1 1 rfl ?_
    refine z_callVi hJ (m_Mo_badSheet_b hq) k_Mo_314 zL.id d_Mo_read_2 hc_Mo 0 rfl rfl rfl (Nat.le_of_ble_eq_true rfl) ⟨by decide, by decide⟩ ?_
    refine z_istore_n (lv' := [(0, _), (1, _), (2, _)]) hJ d_Mo_read_5 (by decide) rfl ?_
    refine z_iload_n hJ d_Mo_read_6 2 rfl ?_
    refine z_if_eq hJ d_Mo_read_7 (fun c => absurd c (by decide)) (fun _ => ?_)
    refine z_aload_n hJ d_Mo_read_10 0 rfl ?_
    refine z_iload_n hJ d_Mo_read_11 2 rfl ?_
    refine z_callVi hJ m_Mo_finds_0 k_Mo_67 zL_mv d_Mo_read_12 hc_Mo 0 rfl rfl rfl (Nat.le_of_ble_eq_true rfl) ⟨by decide, by decide⟩ ?_
    exact z_ri hR d_Mo_read_15 (by simp [p_read, hq]; try rfl) (by simp [p_read, hq])
