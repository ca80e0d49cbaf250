theorem zRo_rw (P : RS) : zRo P (q_rw P) := by
  refine ⟨rfl, rfl, rfl, fun p hp => ⟨?_, ?_, ?_, ?_, ?_⟩, fun t ht => ⟨?_, ?_, ?_, ?_⟩⟩
  · unfold q_rw
    rw [if_neg (by omega), if_neg (by omega), if_neg (by omega), if_pos (by omega), show (3 + 5 * p + 0 - 3) / 5 = p by omega, if_pos (by omega)]
  · unfold q_rw
    rw [if_neg (by omega), if_neg (by omega), if_neg (by omega), if_pos (by omega), show (3 + 5 * p + 1 - 3) / 5 = p by omega, if_neg (by omega), if_pos (by omega)]
  · unfold q_rw
    rw [if_neg (by omega), if_neg (by omega), if_neg (by omega), if_pos (by omega), show (3 + 5 * p + 2 - 3) / 5 = p by omega, if_neg (by omega), if_neg (by omega), if_pos (by omega)]
  · unfold q_rw
    rw [if_neg (by omega), if_neg (by omega), if_neg (by omega), if_pos (by omega), show (3 + 5 * p + 3 - 3) / 5 = p by omega, if_neg (by omega), if_neg (by omega), if_neg (by omega), if_pos (by omega)]
  · unfold q_rw
    rw [if_neg (by omega), if_neg (by omega), if_neg (by omega), if_pos (by omega), show (3 + 5 * p + 4 - 3) / 5 = p by omega, if_neg (by omega), if_neg (by omega), if_neg (by omega), if_neg (by omega)]
  · unfold q_rw
    rw [if_neg (by omega), if_neg (by omega), if_neg (by omega), if_neg (by omega), show (38 + 4 * t + 0 - 38) / 4 = t by omega, if_pos (by omega)]
  · unfold q_rw
    rw [if_neg (by omega), if_neg (by omega), if_neg (by omega), if_neg (by omega), show (38 + 4 * t + 1 - 38) / 4 = t by omega, if_neg (by omega), if_pos (by omega)]
  · unfold q_rw
    rw [if_neg (by omega), if_neg (by omega), if_neg (by omega), if_neg (by omega), show (38 + 4 * t + 2 - 38) / 4 = t by omega, if_neg (by omega), if_neg (by omega), if_pos (by omega)]
  · unfold q_rw
    rw [if_neg (by omega), if_neg (by omega), if_neg (by omega), if_neg (by omega), show (38 + 4 * t + 3 - 38) / 4 = t by omega, if_neg (by omega), if_neg (by omega), if_neg (by omega)]

set_option maxRecDepth 100000 in
theorem m_Mo_road {g : Nat → Nat → Nat} {a : Nat → Nat} {x0 : Nat → Int32} {x1 : Nat → Int32} {x3 : Nat → Int32} {x4 : Nat → Int32} {x5 : Nat → Int64} {x6 : Nat → Int32} {x7 : Nat} {x8 : Int32} {x9 : Nat} {x10 : Nat} {x11 : Int64} {x12 : Int32} {x13 : Bool} {x14 : Nat → Int32} {x15 : Nat → Int32} {x16 : Nat → Int64} {x17 : Nat → Int64} {x18 : Nat → Int32} {x19 : Nat → Int32} {x20 : Bool} {P : RS} {tp : TS} (hR0 : zRo P x0) (hP : zPi P) (hG : zRg P) (h6 : tp.1 = x6) (h7 : tp.2.1 = x7) (h120 : x7 ≤ 120) (hb : ∀ i, i < x7 → ∃ c, c < 256 ∧ x6 i = nI c) : zM g y_Mo_road b_Mo_road 3 (some .int) 7 [.ref (a 0)] (mV g a x0 x1 127 x3 x4 x5 x6 x7 x8 x9 x10 x11 x12 x13 x14 x15 x16 x17 x18 x19 x20) [.int (p_road P tp).1] (mV g a (q_rw (p_road P tp).2.1) x1 127 x3 x4 x5 x6 0 (q_tks (q_rd P tp).2.1) ((q_rd P tp).2.1.2.2.2.1) ((q_rd P tp).2.1.2.2.2.2.1) (q_tkw (q_rd P tp).2.1) (q_tkv (q_rd P tp).2.1) (decide (0 ≤ (q_rd P tp).1)) x14 x15 x16 x17 x18 x0 x20) := by
  refine zMi (lv := [(0, .ref (a 0))]) (by decide) (Nat.le_of_ble_eq_true rfl) rfl (fun J hJ hR => ?_)
  refine z_aload_n hJ d_Mo_road_0 0 rfl ?_
  refine z_iconst (v := 1) hJ d_Mo_road_1 (by decide) ?_
  refine z_aload_n hJ d_Mo_road_2 0 rfl ?_
  refine z_get hJ d_Mo_road_3 hc_Mo f_Mo_48 0 rfl rfl (by decide) ?_
  refine z_callVv hJ m_Mo_moveAll_before_k k_Mo_155 zL.id d_Mo_road_6 hc_Mo 0 rfl rfl rfl (Nat.le_of_ble_eq_true rfl) ⟨by decide, by decide⟩ ?_
  refine z_aload_n hJ d_Mo_road_9 0 rfl ?_
  refine z_iconst (v := 0) hJ d_Mo_road_10 (by decide) ?_
  refine z_put (w' := mV g a x0 x1 127 x3 x4 x5 x6 x7 x8 x9 0 x11 x12 x13 x14 x15 x16 x17 x18 x0 x20) hJ d_Mo_road_11 hc_Mo f_Mo_190 0 rfl rfl rfl rfl (by decide) (Nat.le_of_ble_eq_true rfl) rfl ?_
  refine z_aload_n hJ d_Mo_road_14 0 rfl ?_
  refine z_iconst (v := 1) hJ d_Mo_road_15 (by decide) ?_
  refine z_put (w' := mV g a x0 x1 127 x3 x4 x5 x6 x7 x8 x9 0 x11 x12 true x14 x15 x16 x17 x18 x0 x20) hJ d_Mo_road_16 hc_Mo f_Mo_247 0 rfl rfl rfl rfl (by decide) (Nat.le_of_ble_eq_true rfl) rfl ?_
  refine z_iconst (v := 0) hJ d_Mo_road_19 (by decide) ?_
  refine z_istore_n (lv' := [(0, _), (1, _)]) hJ d_Mo_road_20 (by decide) rfl ?_
  refine z_iconst (v := 1) hJ d_Mo_road_21 (by decide) ?_
  refine z_istore_n (lv' := [(0, _), (1, _), (2, _)]) hJ d_Mo_road_22 (by decide) rfl ?_
  refine z_iload_n hJ d_Mo_road_23 2 rfl ?_
  refine z_if_eq hJ d_Mo_road_24 (fun c => absurd c (by decide)) (fun _ => ?_)
  have L27 : ∀ j : Nat, j ≤ 120 → ∀ (T' : TS) (P' : RS) (F : Nat → Int32) (s8 : Int32) (s9 : Nat) (s11 : Int64) (s12 : Int32), zTk T' x6 x7 → zRo P' F → zPi P' → zRg P' → j ≤ T'.2.2.2.2.1 → q_tell (120 - j) (q_adv T') P' j = (q_rd P tp) → J (mV g a F x1 127 x3 x4 x5 x6 x7 s8 s9 (T'.2.2.2.2.1) s11 s12 true x14 x15 x16 x17 x18 x0 x20) 27 [(0, .ref (a 0)), (1, .int (nI j)), (2, .int 1)] [] := by
    refine zloop (120) (fun j hjN ih => ?_)
    intro T' P' F s8 s9 s11 s12 hT' hR' hP' hG' hjT hq
    have hu := q_tell_u (P := P') hT' hjT
    have hA := zA_item (P := P') (⟨T', hT', Nat.le_refl _, rfl⟩ : zA x6 x7 T' (q_adv T'))
    have hst := hA.st
    obtain ⟨S, hS1, hS2, hS3⟩ := hA
    refine z_aload_n hJ d_Mo_road_27 0 rfl ?_
    refine z_callVv hJ (m_Mo_advance (T := T') hT') k_Mo_251 zL.id d_Mo_road_28 hc_Mo 0 rfl rfl rfl (Nat.le_of_ble_eq_true rfl) ⟨by decide, by decide⟩ ?_
    refine z_aload_n hJ d_Mo_road_31 0 rfl ?_
    refine z_callVv hJ (m_Mo_wantItem (T := q_adv T') (P := P') hT'.adv hR' hP' hG') k_Mo_299 zL.id d_Mo_road_32 hc_Mo 0 rfl rfl rfl (Nat.le_of_ble_eq_true rfl) ⟨by decide, by decide⟩ ?_
    refine z_iinc (v := nI (j + 1)) (lv' := [(0, _), (1, _), (2, _)]) hJ d_Mo_road_35 1 rfl (zinc _) (by decide) rfl ?_
    refine z_aload_n hJ d_Mo_road_38 0 rfl ?_
    refine z_get hJ d_Mo_road_39 hc_Mo f_Mo_247 0 rfl rfl (by decide) ?_
    refine zb_eq hJ d_Mo_road_42 (fun c_42 => ?_) (fun c_42 => ?_)
    · skip
      try dsimp only at c_42
      have hX := hq.symm.trans (hu.1 c_42)
      refine z_iconst (v := 0) hJ d_Mo_road_66 (by decide) ?_
      refine z_istore_n (lv' := [(0, _), (1, _), (2, _)]) hJ d_Mo_road_67 (by decide) rfl ?_
      refine z_goto hJ d_Mo_road_68 ?_
      refine z_iload_n hJ d_Mo_road_23 2 rfl ?_
      refine z_if_eq hJ d_Mo_road_24 (fun _ => ?_) (fun c => absurd c (by decide))
      refine z_aload_n hJ d_Mo_road_71 0 rfl ?_
      refine z_aload_n hJ d_Mo_road_72 0 rfl ?_
      refine z_get hJ d_Mo_road_73 hc_Mo f_Mo_247 0 rfl rfl (by decide) ?_
      refine zb_eq hJ d_Mo_road_76 (fun c_76 => ?_) (fun c_76 => False.elim (by rw [c_42] at c_76; exact absurd c_76 (by decide)))
      refine z_iconst (v := 0) hJ d_Mo_road_90 (by decide) ?_
      refine z_put (w' := mV g a (if (q_item (q_adv T') P').1 = true then q_rw (q_item (q_adv T') P').2.2 else F) x1 127 x3 x4 x5 x6 x7 (q_tks (q_item (q_adv T') P').2.1) ((q_item (q_adv T') P').2.1.2.2.2.1) ((q_item (q_adv T') P').2.1.2.2.2.2.1) (q_tkw (q_item (q_adv T') P').2.1) (q_tkv (q_item (q_adv T') P').2.1) false x14 x15 x16 x17 x18 x0 x20) hJ d_Mo_road_91 hc_Mo f_Mo_247 0 rfl rfl rfl rfl (by decide) (Nat.le_of_ble_eq_true rfl) rfl ?_
      refine z_aload_n hJ d_Mo_road_94 0 rfl ?_
      refine z_iconst (v := 0) hJ d_Mo_road_95 (by decide) ?_
      refine z_put (w' := mV g a (if (q_item (q_adv T') P').1 = true then q_rw (q_item (q_adv T') P').2.2 else F) x1 127 x3 x4 x5 x6 0 (q_tks (q_item (q_adv T') P').2.1) ((q_item (q_adv T') P').2.1.2.2.2.1) ((q_item (q_adv T') P').2.1.2.2.2.2.1) (q_tkw (q_item (q_adv T') P').2.1) (q_tkv (q_item (q_adv T') P').2.1) false x14 x15 x16 x17 x18 x0 x20) hJ d_Mo_road_96 hc_Mo f_Mo_187 0 rfl rfl rfl rfl (by decide) (Nat.le_of_ble_eq_true rfl) rfl ?_
      refine z_aload_n hJ d_Mo_road_99 0 rfl ?_
      refine z_get hJ d_Mo_road_100 hc_Mo f_Mo_247 0 rfl rfl (by decide) ?_
      refine zb_ne hJ d_Mo_road_103 (fun c_103 => False.elim (by exact absurd c_103 (by decide))) (fun c_103 => ?_)
      refine z_aload_n hJ d_Mo_road_106 0 rfl ?_
      refine z_iconst (v := 0) hJ d_Mo_road_107 (by decide) ?_
      refine z_aload_n hJ d_Mo_road_108 0 rfl ?_
      refine z_get hJ d_Mo_road_109 hc_Mo f_Mo_48 0 rfl rfl (by decide) ?_
      refine z_callVv hJ m_Mo_moveAll_before_b k_Mo_155 zL.id d_Mo_road_112 hc_Mo 0 rfl rfl rfl (Nat.le_of_ble_eq_true rfl) ⟨by decide, by decide⟩ ?_
      refine z_iconst (v := (-1)) hJ d_Mo_road_115 (by decide) ?_
      refine z_aload_n hJ d_Mo_road_116 0 rfl ?_
      refine z_get hJ d_Mo_road_117 hc_Mo f_Mo_193 0 rfl rfl (by decide) ?_
      refine z_isub hJ d_Mo_road_120 ?_
      have hP2 : (p_road P tp).2.1 = P := by show (if 0 ≤ (q_rd P tp).1 then (q_rd P tp).2.2 else P) = _; rw [hX]; exact if_neg (q_m1s hst.1)
      refine z_arri (f := x0) (f' := q_rw (p_road P tp).2.1) (w' := mV g a (q_rw (p_road P tp).2.1) x1 127 x3 x4 x5 x6 0 (q_tks (q_item (q_adv T') P').2.1) ((q_item (q_adv T') P').2.1.2.2.2.1) ((q_item (q_adv T') P').2.1.2.2.2.2.1) (q_tkw (q_item (q_adv T') P').2.1) (q_tkv (q_item (q_adv T') P').2.1) false x14 x15 x16 x17 x18 x0 x20) hJ 1 rfl (by rw [hP2]; exact hR0.rw) rfl ?_
      exact z_ri hR d_Mo_road_121 (by show _ = (q_rd P tp).1; rw [hX]) (by rw [hX, decide_eq_false (q_m1s hst.1)])
    · skip
      try dsimp only at c_42
      refine z_aload_n hJ d_Mo_road_45 0 rfl ?_
      refine z_get hJ d_Mo_road_46 hc_Mo f_Mo_205 0 rfl rfl (by decide) ?_
      refine z_iconst (v := 3) hJ d_Mo_road_49 (by decide) ?_
      refine z_icmp_ne hJ d_Mo_road_50 (fun c_50 => ?_) (fun c_50 => ?_)
      · skip
        try dsimp only at c_50
        refine z_iconst (v := 0) hJ d_Mo_road_66 (by decide) ?_
        refine z_istore_n (lv' := [(0, _), (1, _), (2, _)]) hJ d_Mo_road_67 (by decide) rfl ?_
        refine z_goto hJ d_Mo_road_68 ?_
        refine z_iload_n hJ d_Mo_road_23 2 rfl ?_
        refine z_if_eq hJ d_Mo_road_24 (fun _ => ?_) (fun c => absurd c (by decide))
        refine z_aload_n hJ d_Mo_road_71 0 rfl ?_
        refine z_aload_n hJ d_Mo_road_72 0 rfl ?_
        refine z_get hJ d_Mo_road_73 hc_Mo f_Mo_247 0 rfl rfl (by decide) ?_
        refine zb_eq hJ d_Mo_road_76 (fun c_76 => False.elim (by rw [c_42] at c_76; exact absurd c_76 (by decide))) (fun c_76 => ?_)
        refine z_aload_n hJ d_Mo_road_79 0 rfl ?_
        refine z_get hJ d_Mo_road_80 hc_Mo f_Mo_205 0 rfl rfl (by decide) ?_
        refine z_if_ne hJ d_Mo_road_83 (fun c_83 => ?_) (fun c_83 => ?_)
        · skip
          try dsimp only at c_83
          have hX := hq.symm.trans (hu.2.2.2 c_42 (fun e => c_83 (q_tk0.mpr e)) (fun e => c_50 (by rw [hS3] at e ⊢; exact ((q_tk3 S).mpr e).1)))
          refine z_iconst (v := 0) hJ d_Mo_road_90 (by decide) ?_
          refine z_put (w' := mV g a (if (q_item (q_adv T') P').1 = true then q_rw (q_item (q_adv T') P').2.2 else F) x1 127 x3 x4 x5 x6 x7 (q_tks (q_item (q_adv T') P').2.1) ((q_item (q_adv T') P').2.1.2.2.2.1) ((q_item (q_adv T') P').2.1.2.2.2.2.1) (q_tkw (q_item (q_adv T') P').2.1) (q_tkv (q_item (q_adv T') P').2.1) false x14 x15 x16 x17 x18 x0 x20) hJ d_Mo_road_91 hc_Mo f_Mo_247 0 rfl rfl rfl rfl (by decide) (Nat.le_of_ble_eq_true rfl) rfl ?_
          refine z_aload_n hJ d_Mo_road_94 0 rfl ?_
          refine z_iconst (v := 0) hJ d_Mo_road_95 (by decide) ?_
          refine z_put (w' := mV g a (if (q_item (q_adv T') P').1 = true then q_rw (q_item (q_adv T') P').2.2 else F) x1 127 x3 x4 x5 x6 0 (q_tks (q_item (q_adv T') P').2.1) ((q_item (q_adv T') P').2.1.2.2.2.1) ((q_item (q_adv T') P').2.1.2.2.2.2.1) (q_tkw (q_item (q_adv T') P').2.1) (q_tkv (q_item (q_adv T') P').2.1) false x14 x15 x16 x17 x18 x0 x20) hJ d_Mo_road_96 hc_Mo f_Mo_187 0 rfl rfl rfl rfl (by decide) (Nat.le_of_ble_eq_true rfl) rfl ?_
          refine z_aload_n hJ d_Mo_road_99 0 rfl ?_
          refine z_get hJ d_Mo_road_100 hc_Mo f_Mo_247 0 rfl rfl (by decide) ?_
          refine zb_ne hJ d_Mo_road_103 (fun c_103 => False.elim (by exact absurd c_103 (by decide))) (fun c_103 => ?_)
          refine z_aload_n hJ d_Mo_road_106 0 rfl ?_
          refine z_iconst (v := 0) hJ d_Mo_road_107 (by decide) ?_
          refine z_aload_n hJ d_Mo_road_108 0 rfl ?_
          refine z_get hJ d_Mo_road_109 hc_Mo f_Mo_48 0 rfl rfl (by decide) ?_
          refine z_callVv hJ m_Mo_moveAll_before_b k_Mo_155 zL.id d_Mo_road_112 hc_Mo 0 rfl rfl rfl (Nat.le_of_ble_eq_true rfl) ⟨by decide, by decide⟩ ?_
          refine z_iconst (v := (-1)) hJ d_Mo_road_115 (by decide) ?_
          refine z_aload_n hJ d_Mo_road_116 0 rfl ?_
          refine z_get hJ d_Mo_road_117 hc_Mo f_Mo_193 0 rfl rfl (by decide) ?_
          refine z_isub hJ d_Mo_road_120 ?_
          have hP2 : (p_road P tp).2.1 = P := by show (if 0 ≤ (q_rd P tp).1 then (q_rd P tp).2.2 else P) = _; rw [hX]; exact if_neg (q_m1s hst.1)
          refine z_arri (f := x0) (f' := q_rw (p_road P tp).2.1) (w' := mV g a (q_rw (p_road P tp).2.1) x1 127 x3 x4 x5 x6 0 (q_tks (q_item (q_adv T') P').2.1) ((q_item (q_adv T') P').2.1.2.2.2.1) ((q_item (q_adv T') P').2.1.2.2.2.2.1) (q_tkw (q_item (q_adv T') P').2.1) (q_tkv (q_item (q_adv T') P').2.1) false x14 x15 x16 x17 x18 x0 x20) hJ 1 rfl (by rw [hP2]; exact hR0.rw) rfl ?_
          exact z_ri hR d_Mo_road_121 (by show _ = (q_rd P tp).1; rw [hX]) (by rw [hX, decide_eq_false (q_m1s hst.1)])
        · skip
          try dsimp only at c_83
          have hX := hq.symm.trans (hu.2.1 c_42 (q_tk0.mp c_83))
          refine z_iconst (v := 1) hJ d_Mo_road_86 (by decide) ?_
          refine z_goto hJ d_Mo_road_87 ?_
          refine z_put (w' := mV g a (if (q_item (q_adv T') P').1 = true then q_rw (q_item (q_adv T') P').2.2 else F) x1 127 x3 x4 x5 x6 x7 (q_tks (q_item (q_adv T') P').2.1) ((q_item (q_adv T') P').2.1.2.2.2.1) ((q_item (q_adv T') P').2.1.2.2.2.2.1) (q_tkw (q_item (q_adv T') P').2.1) (q_tkv (q_item (q_adv T') P').2.1) true x14 x15 x16 x17 x18 x0 x20) hJ d_Mo_road_91 hc_Mo f_Mo_247 0 rfl rfl rfl rfl (by decide) (Nat.le_of_ble_eq_true rfl) rfl ?_
          refine z_aload_n hJ d_Mo_road_94 0 rfl ?_
          refine z_iconst (v := 0) hJ d_Mo_road_95 (by decide) ?_
          refine z_put (w' := mV g a (if (q_item (q_adv T') P').1 = true then q_rw (q_item (q_adv T') P').2.2 else F) x1 127 x3 x4 x5 x6 0 (q_tks (q_item (q_adv T') P').2.1) ((q_item (q_adv T') P').2.1.2.2.2.1) ((q_item (q_adv T') P').2.1.2.2.2.2.1) (q_tkw (q_item (q_adv T') P').2.1) (q_tkv (q_item (q_adv T') P').2.1) true x14 x15 x16 x17 x18 x0 x20) hJ d_Mo_road_96 hc_Mo f_Mo_187 0 rfl rfl rfl rfl (by decide) (Nat.le_of_ble_eq_true rfl) rfl ?_
          refine z_aload_n hJ d_Mo_road_99 0 rfl ?_
          refine z_get hJ d_Mo_road_100 hc_Mo f_Mo_247 0 rfl rfl (by decide) ?_
          refine zb_ne hJ d_Mo_road_103 (fun c_103 => ?_) (fun c_103 => False.elim (by exact absurd c_103 (by decide)))
          refine z_iload_n hJ d_Mo_road_122 1 rfl ?_
          have hP2 : (p_road P tp).2.1 = (q_item (q_adv T') P').2.2 := by show (if 0 ≤ (q_rd P tp).1 then (q_rd P tp).2.2 else P) = _; rw [hX]; exact if_pos (nI_pos' (by omega))
          refine z_w (w' := mV g a (q_rw (p_road P tp).2.1) x1 127 x3 x4 x5 x6 0 (q_tks (q_item (q_adv T') P').2.1) ((q_item (q_adv T') P').2.1.2.2.2.1) ((q_item (q_adv T') P').2.1.2.2.2.2.1) (q_tkw (q_item (q_adv T') P').2.1) (q_tkv (q_item (q_adv T') P').2.1) true x14 x15 x16 x17 x18 x0 x20) (by rw [hP2, c_42]; rfl) ?_
          exact z_ri hR d_Mo_road_123 (by show _ = (q_rd P tp).1; rw [hX]) (by rw [hX, decide_eq_true (nI_pos' (by omega))])
      · skip
        try dsimp only at c_50
        refine z_aload_n hJ d_Mo_road_53 0 rfl ?_
        refine z_get hJ d_Mo_road_54 hc_Mo f_Mo_212 0 rfl rfl (by decide) ?_
        refine z_bipush (v := 59) hJ d_Mo_road_57 (by decide) ?_
        refine z_icmp_ne hJ d_Mo_road_59 (fun c_59 => ?_) (fun c_59 => ?_)
        · skip
          try dsimp only at c_59
          refine z_iconst (v := 0) hJ d_Mo_road_66 (by decide) ?_
          refine z_istore_n (lv' := [(0, _), (1, _), (2, _)]) hJ d_Mo_road_67 (by decide) rfl ?_
          refine z_goto hJ d_Mo_road_68 ?_
          refine z_iload_n hJ d_Mo_road_23 2 rfl ?_
          refine z_if_eq hJ d_Mo_road_24 (fun _ => ?_) (fun c => absurd c (by decide))
          refine z_aload_n hJ d_Mo_road_71 0 rfl ?_
          refine z_aload_n hJ d_Mo_road_72 0 rfl ?_
          refine z_get hJ d_Mo_road_73 hc_Mo f_Mo_247 0 rfl rfl (by decide) ?_
          refine zb_eq hJ d_Mo_road_76 (fun c_76 => False.elim (by rw [c_42] at c_76; exact absurd c_76 (by decide))) (fun c_76 => ?_)
          refine z_aload_n hJ d_Mo_road_79 0 rfl ?_
          refine z_get hJ d_Mo_road_80 hc_Mo f_Mo_205 0 rfl rfl (by decide) ?_
          refine z_if_ne hJ d_Mo_road_83 (fun c_83 => ?_) (fun c_83 => False.elim (by rw [c_50] at c_83; exact absurd c_83 (by decide)))
          refine z_iconst (v := 0) hJ d_Mo_road_90 (by decide) ?_
          refine z_put (w' := mV g a (if (q_item (q_adv T') P').1 = true then q_rw (q_item (q_adv T') P').2.2 else F) x1 127 x3 x4 x5 x6 x7 (q_tks (q_item (q_adv T') P').2.1) ((q_item (q_adv T') P').2.1.2.2.2.1) ((q_item (q_adv T') P').2.1.2.2.2.2.1) (q_tkw (q_item (q_adv T') P').2.1) (q_tkv (q_item (q_adv T') P').2.1) false x14 x15 x16 x17 x18 x0 x20) hJ d_Mo_road_91 hc_Mo f_Mo_247 0 rfl rfl rfl rfl (by decide) (Nat.le_of_ble_eq_true rfl) rfl ?_
          refine z_aload_n hJ d_Mo_road_94 0 rfl ?_
          refine z_iconst (v := 0) hJ d_Mo_road_95 (by decide) ?_
          refine z_put (w' := mV g a (if (q_item (q_adv T') P').1 = true then q_rw (q_item (q_adv T') P').2.2 else F) x1 127 x3 x4 x5 x6 0 (q_tks (q_item (q_adv T') P').2.1) ((q_item (q_adv T') P').2.1.2.2.2.1) ((q_item (q_adv T') P').2.1.2.2.2.2.1) (q_tkw (q_item (q_adv T') P').2.1) (q_tkv (q_item (q_adv T') P').2.1) false x14 x15 x16 x17 x18 x0 x20) hJ d_Mo_road_96 hc_Mo f_Mo_187 0 rfl rfl rfl rfl (by decide) (Nat.le_of_ble_eq_true rfl) rfl ?_
          refine z_aload_n hJ d_Mo_road_99 0 rfl ?_
          refine z_get hJ d_Mo_road_100 hc_Mo f_Mo_247 0 rfl rfl (by decide) ?_
          refine zb_ne hJ d_Mo_road_103 (fun c_103 => False.elim (by exact absurd c_103 (by decide))) (fun c_103 => ?_)
          refine z_aload_n hJ d_Mo_road_106 0 rfl ?_
          refine z_iconst (v := 0) hJ d_Mo_road_107 (by decide) ?_
          refine z_aload_n hJ d_Mo_road_108 0 rfl ?_
          refine z_get hJ d_Mo_road_109 hc_Mo f_Mo_48 0 rfl rfl (by decide) ?_
          refine z_callVv hJ m_Mo_moveAll_before_b k_Mo_155 zL.id d_Mo_road_112 hc_Mo 0 rfl rfl rfl (Nat.le_of_ble_eq_true rfl) ⟨by decide, by decide⟩ ?_
          refine z_iconst (v := (-1)) hJ d_Mo_road_115 (by decide) ?_
          refine z_aload_n hJ d_Mo_road_116 0 rfl ?_
          refine z_get hJ d_Mo_road_117 hc_Mo f_Mo_193 0 rfl rfl (by decide) ?_
          refine z_isub hJ d_Mo_road_120 ?_
          have hX := hq.symm.trans (hu.2.2.2 c_42 (fun e => c_83 (q_tk0.mpr e)) (fun e => c_59 (by rw [hS3] at e ⊢; exact ((q_tk3 S).mpr e).2)))
          have hP2 : (p_road P tp).2.1 = P := by show (if 0 ≤ (q_rd P tp).1 then (q_rd P tp).2.2 else P) = _; rw [hX]; exact if_neg (q_m1s hst.1)
          refine z_arri (f := x0) (f' := q_rw (p_road P tp).2.1) (w' := mV g a (q_rw (p_road P tp).2.1) x1 127 x3 x4 x5 x6 0 (q_tks (q_item (q_adv T') P').2.1) ((q_item (q_adv T') P').2.1.2.2.2.1) ((q_item (q_adv T') P').2.1.2.2.2.2.1) (q_tkw (q_item (q_adv T') P').2.1) (q_tkv (q_item (q_adv T') P').2.1) false x14 x15 x16 x17 x18 x0 x20) hJ 1 rfl (by rw [hP2]; exact hR0.rw) rfl ?_
          exact z_ri hR d_Mo_road_121 (by show _ = (q_rd P tp).1; rw [hX]) (by rw [hX, decide_eq_false (q_m1s hst.1)])
        · skip
          try dsimp only at c_59
          refine z_iconst (v := 1) hJ d_Mo_road_62 (by decide) ?_
          refine z_goto hJ d_Mo_road_63 ?_
          refine z_istore_n (lv' := [(0, _), (1, _), (2, _)]) hJ d_Mo_road_67 (by decide) rfl ?_
          refine z_goto hJ d_Mo_road_68 ?_
          refine z_iload_n hJ d_Mo_road_23 2 rfl ?_
          refine z_if_eq hJ d_Mo_road_24 (fun c => absurd c (by decide)) (fun _ => ?_)
          have ht3 : (q_item (q_adv T') P').2.1.2.2.1 = 3 := by rw [hS3] at c_50 c_59 ⊢; exact (q_tk3 S).mp ⟨c_50, c_59⟩
          have h3 := hu.2.2.1 c_42 ht3
          refine z_w (w' := mV g a (q_rw (q_item (q_adv T') P').2.2) x1 127 x3 x4 x5 x6 x7 (q_tks (q_item (q_adv T') P').2.1) ((q_item (q_adv T') P').2.1.2.2.2.1) ((q_item (q_adv T') P').2.1.2.2.2.2.1) (q_tkw (q_item (q_adv T') P').2.1) (q_tkv (q_item (q_adv T') P').2.1) true x14 x15 x16 x17 x18 x0 x20) (by rw [c_42]; rfl) ?_
          exact ih h3.1 (q_item (q_adv T') P').2.1 (q_item (q_adv T') P').2.2 _ _ _ _ _ hst.2 (zRo_rw _) (q_item_inv (zTi.adv (by rw [hT'.2.1]; exact hT'.2.2.1) (by rw [hT'.2.1]; exact hT'.2.2.2.1)) hP').2 (zRg_item hG' hP') h3.2.1 (h3.2.2.symm.trans hq)
  exact L27 0 (Nat.zero_le _) (tp.1, tp.2.1, tp.2.2.1, tp.2.2.2.1, 0, tp.2.2.2.2.2) P x0 x8 x9 x11 x12 ⟨h6, h7, h120, Nat.zero_le _, hb, fun _ i _ h => absurd h (Nat.not_lt_zero i)⟩ hR0 hP hG (Nat.zero_le _) rfl
