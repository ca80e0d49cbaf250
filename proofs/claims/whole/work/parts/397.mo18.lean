def zP0 : RS := (0, 0, 0, 0, fun _ => 0, fun _ => 0, fun _ => 0, fun _ => 0, fun _ => 0, fun _ => 0, fun _ => 0, fun _ => 0)
theorem zshr8 (x : Int32) {k : Nat} (hk : k < 4) : ((x >>> ((8 * nI k) &&& 31)) &&& 255) = ((x.toUInt32 >>> ((8 * nI k : Int32).toUInt32 &&& Int32.toUInt32 31)).toInt32 &&& 255) := by
  have h : ∀ (v : BitVec 32) (n : Nat), n ≤ 24 → (v.sshiftRight n) &&& 255#32 = (v >>> n) &&& 255#32 := by
    intro v n hn
    apply BitVec.eq_of_getLsbD_eq
    intro i hi
    rw [BitVec.getLsbD_and, BitVec.getLsbD_and, BitVec.getLsbD_sshiftRight, BitVec.getLsbD_ushiftRight]
    by_cases h8 : i < 8
    · simp [show n + i < 32 by omega, hi, show ¬ 32 ≤ i by omega]
    · have e : (255#32).getLsbD i = false := by
        rw [BitVec.getLsbD_ofNat, Nat.testBit_lt_two_pow (Nat.lt_of_lt_of_le (show 255 < 2 ^ 8 by decide) (Nat.pow_le_pow_right (by decide) (by omega)))]
        simp
      rw [e, Bool.and_false, Bool.and_false]
  apply Int32.toBitVec_inj.mp
  obtain rfl | rfl | rfl | rfl : k = 0 ∨ k = 1 ∨ k = 2 ∨ k = 3 := by omega
  · exact h x.toBitVec 0 (by decide)
  · exact h x.toBitVec 8 (by decide)
  · exact h x.toBitVec 16 (by decide)
  · exact h x.toBitVec 24 (by decide)
set_option maxRecDepth 100000 in
theorem m_Mo_feed {g : Nat → Nat → Nat} {a : Nat → Nat} {x0 : Nat → Int32} {x1 : Nat → Int32} {x3 : Nat → Int32} {x4 : Nat → Int32} {x5 : Nat → Int64} {x6 : Nat → Int32} {x7 : Nat} {x8 : Int32} {x9 : Nat} {x10 : Nat} {x11 : Int64} {x12 : Int32} {x13 : Bool} {x14 : Nat → Int32} {x15 : Nat → Int32} {x16 : Nat → Int64} {x17 : Nat → Int64} {x18 : Nat → Int32} {x19 : Nat → Int32} {x20 : Bool} {P : RS} {tp : TS} {x n : Int32} (h6 : tp.1 = x6) (h7 : tp.2.1 = x7) (hz : x7 ≤ 120) : zM g y_Mo_feed b_Mo_feed 4 (some .int) 1 [.ref (a 0), .int x, .int n] (mV g a x0 x1 127 x3 x4 x5 x6 x7 x8 x9 x10 x11 x12 x13 x14 x15 x16 x17 x18 x19 x20) [.int (p_feed x1 tp x n).1] (mV g a x0 ((p_feed x1 tp x n).2.1) 127 x3 x4 x5 ((p_feed x1 tp x n).2.2.1) ((p_feed x1 tp x n).2.2.2.1) x8 x9 x10 x11 x12 x13 x14 x15 x16 x17 x18 x19 x20) := by
  refine zMi (lv := [(0, .ref (a 0)), (1, .int x), (2, .int n)]) (by decide) (Nat.le_of_ble_eq_true rfl) rfl (fun J hJ hR => ?_)
  refine z_iload_n hJ d_Mo_feed_0 2 rfl ?_
  refine z_iconst (v := 1) hJ d_Mo_feed_1 (by decide) ?_
  refine z_iconst (v := 4) hJ d_Mo_feed_2 (by decide) ?_
  refine z_callSi hJ m_Mo_in k_Mo_52 zL.nil d_Mo_feed_3 rfl rfl (Nat.le_of_ble_eq_true rfl) ⟨by decide, by decide⟩ ?_
  refine zb_ne hJ d_Mo_feed_6 (fun c_6 => ?_) (fun c_6 => ?_)
  · skip
    try dsimp only at c_6
    obtain ⟨m, hm1, hm4, rfl⟩ := (q_in_or n).resolve_right (by rw [c_6]; decide)
    have hcl : (nI m).toNatClampNeg = m := nI_clamp (by omega)
    refine z_aload_n hJ d_Mo_feed_16 0 rfl ?_
    refine z_get hJ d_Mo_feed_17 hc_Mo f_Mo_187 0 rfl rfl (by decide) ?_
    refine z_iload_n hJ d_Mo_feed_20 2 rfl ?_
    refine z_iadd hJ d_Mo_feed_21 ?_
    refine z_c (y := nI (x7 + m)) (nI_add _ _) ?_
    refine z_bipush (v := 120) hJ d_Mo_feed_22 (by decide) ?_
    refine z_icmp_le hJ d_Mo_feed_24 (fun c_24 => ?_) (fun c_24 => ?_)
    · skip
      try dsimp only at c_24
      have h_24 : (x7 + m) ≤ 120 := by
        have e := nI_leI (a := (x7 + m)) (b := 120) (by omega) (by omega)
        exact e.mp c_24
      refine z_iload_n hJ d_Mo_feed_34 2 rfl ?_
      refine z_iconst (v := 1) hJ d_Mo_feed_35 (by decide) ?_
      refine z_isub hJ d_Mo_feed_36 ?_
      refine z_istore_n (lv' := [(0, _), (1, _), (2, _), (3, _)]) hJ d_Mo_feed_37 (by decide) rfl ?_
      have L38 : ∀ k : Nat, ∀ (y : Int32) (f : Nat → Int32) (z : Nat), y = nI k - 1 → k ≤ 4 → z + k = x7 + m → q_app x6 x7 x m = q_app f z x k → J (mV g a x0 x1 127 x3 x4 x5 f z x8 x9 x10 x11 x12 x13 x14 x15 x16 x17 x18 x19 x20) 38 [(0, .ref (a 0)), (1, .int x), (2, .int (nI m)), (3, .int y)] [] := by
        refine zloopd (fun k ih_k => ?_)
        intro y f z hy hk4 hzk hq
        refine z_iload_n hJ d_Mo_feed_38 3 rfl ?_
        refine z_if_lt hJ d_Mo_feed_39 (fun c_39 => ?_) (fun c_39 => ?_)
        · skip
          try dsimp only at c_39
          obtain rfl : k = 0 := by
            cases k with
            | zero => rfl
            | succ k' =>
              rw [hy, zsub1 (by omega)] at c_39
              exact absurd c_39 (nI_pos (by omega))
          refine z_aload_n hJ d_Mo_feed_77 0 rfl ?_
          refine z_get hJ d_Mo_feed_78 hc_Mo f_Mo_187 0 rfl rfl (by decide) ?_
          exact z_ri hR d_Mo_feed_81 (by
              have hzz : z = x7 + m := by omega
              simp [p_feed, c_6, hcl, h7, h_24, hzz]) (by
              have hzz : z = x7 + m := by omega
              have hq2 : q_app x6 x7 x m = f := hq
              simp [p_feed, c_6, hcl, h6, h7, h_24, hq2, hzz])
        · skip
          try dsimp only at c_39
          obtain ⟨k', rfl⟩ : ∃ k', k = k' + 1 := by
            cases k with
            | zero => exact absurd (by rw [hy]; decide) c_39
            | succ k' => exact ⟨k', rfl⟩
          obtain rfl : y = nI k' := by
            rw [hy, zsub1 (by omega)]; rfl
          refine z_aload_n hJ d_Mo_feed_42 0 rfl ?_
          refine z_get hJ d_Mo_feed_43 hc_Mo f_Mo_30 0 rfl rfl (by decide) ?_
          refine z_aload_n hJ d_Mo_feed_46 0 rfl ?_
          refine z_get hJ d_Mo_feed_47 hc_Mo f_Mo_187 0 rfl rfl (by decide) ?_
          refine z_iload_n hJ d_Mo_feed_50 1 rfl ?_
          refine z_bipush (v := 8) hJ d_Mo_feed_51 (by decide) ?_
          refine z_iload_n hJ d_Mo_feed_53 3 rfl ?_
          refine z_imul hJ d_Mo_feed_54 ?_
          refine z_ishr hJ d_Mo_feed_55 ?_
          refine z_sipush (v := 255) hJ d_Mo_feed_56 (by decide) ?_
          refine z_iand hJ d_Mo_feed_59 ?_
          refine z_c (zshr8 x (k := k') (by omega)) ?_
          refine z_iast (w' := mV g a x0 x1 127 x3 x4 x5 (upd f (z) ((x.toUInt32 >>> ((8 * nI k' : Int32).toUInt32 &&& Int32.toUInt32 31)).toInt32 &&& 255)) z x8 x9 x10 x11 x12 x13 x14 x15 x16 x17 x18 x19 x20) hJ d_Mo_feed_60 6 (z) rfl rfl (by omega) (by decide) rfl ?_
          refine z_aload_n hJ d_Mo_feed_61 0 rfl ?_
          refine z_dup hJ d_Mo_feed_62 rfl ?_
          refine z_get hJ d_Mo_feed_63 hc_Mo f_Mo_187 0 rfl rfl (by decide) ?_
          refine z_iconst (v := 1) hJ d_Mo_feed_66 (by decide) ?_
          refine z_iadd hJ d_Mo_feed_67 ?_
          refine z_c (y := nI (z + 1)) (nI_1 _) ?_
          refine z_put (w' := mV g a x0 x1 127 x3 x4 x5 (upd f (z) ((x.toUInt32 >>> ((8 * nI k' : Int32).toUInt32 &&& Int32.toUInt32 31)).toInt32 &&& 255)) ((z + 1)) x8 x9 x10 x11 x12 x13 x14 x15 x16 x17 x18 x19 x20) hJ d_Mo_feed_68 hc_Mo f_Mo_187 0 rfl rfl rfl rfl (by decide) (Nat.le_of_ble_eq_true rfl) rfl ?_
          refine z_iinc (v := _) (lv' := [(0, _), (1, _), (2, _), (3, _)]) hJ d_Mo_feed_71 3 rfl rfl (by decide) rfl ?_
          refine z_goto hJ d_Mo_feed_74 ?_
          exact ih_k k' (by omega) _ _ (z + 1) (zaddm1 _) (by omega) (by omega) hq
      exact L38 m _ x6 x7 rfl (by omega) rfl rfl
    · skip
      try dsimp only at c_24
      have h_24 : ¬ ((x7 + m) ≤ 120) := by
        have e := nI_leI (a := (x7 + m)) (b := 120) (by omega) (by omega)
        exact fun q => c_24 (e.mpr q)
      refine z_aload_n hJ d_Mo_feed_27 0 rfl ?_
      refine z_ldc hJ d_Mo_feed_28 c_Mo_71 ?_
      refine z_callVi hJ m_Mo_finds_1 k_Mo_67 zL_mv d_Mo_feed_30 hc_Mo 0 rfl rfl rfl (Nat.le_of_ble_eq_true rfl) ⟨by decide, by decide⟩ ?_
      exact z_ri hR d_Mo_feed_33 (by simp [p_feed, c_6, hcl, h7, h_24]) (by simp [p_feed, c_6, hcl, h6, h7, h_24])
  · skip
    try dsimp only at c_6
    refine z_aload_n hJ d_Mo_feed_9 0 rfl ?_
    refine z_ldc hJ d_Mo_feed_10 c_Mo_51 ?_
    refine z_callVi hJ m_Mo_finds_0 k_Mo_67 zL_mv d_Mo_feed_12 hc_Mo 0 rfl rfl rfl (Nat.le_of_ble_eq_true rfl) ⟨by decide, by decide⟩ ?_
    exact z_ri hR d_Mo_feed_15 (by simp [p_feed, h6, h7, c_6]; try rfl) (by simp [p_feed, h6, h7, c_6])
set_option maxRecDepth 100000 in
theorem m_Mo_advance {g : Nat → Nat → Nat} {a : Nat → Nat} {x0 : Nat → Int32} {x1 : Nat → Int32} {x3 : Nat → Int32} {x4 : Nat → Int32} {x5 : Nat → Int64} {x6 : Nat → Int32} {x7 : Nat} {x8 : Int32} {x9 : Nat} {x11 : Int64} {x12 : Int32} {x13 : Bool} {x14 : Nat → Int32} {x15 : Nat → Int32} {x16 : Nat → Int64} {x17 : Nat → Int64} {x18 : Nat → Int32} {x19 : Nat → Int32} {x20 : Bool} {T : TS} (hT : zTk T x6 x7) : zM g y_Mo_advance b_Mo_advance 2 none 2 [.ref (a 0)] (mV g a x0 x1 127 x3 x4 x5 x6 x7 x8 x9 (T.2.2.2.2.1) x11 x12 x13 x14 x15 x16 x17 x18 x19 x20) [] (mV g a x0 x1 127 x3 x4 x5 x6 x7 (q_tks (q_adv T)) ((q_adv T).2.2.2.1) ((q_adv T).2.2.2.2.1) (q_tkw (q_adv T)) (q_tkv (q_adv T)) x13 x14 x15 x16 x17 x18 x19 x20) := by
  have h6 := hT.1
  have h7 := hT.2.1
  have h120 := hT.2.2.1
  have he := hT.2.2.2.1
  have hb := hT.2.2.2.2.1
  have hst : q_st T = q_run (q_blank x6) x7 T.2.2.2.2.1 := by unfold q_st; rw [h6, h7]
  have hs : q_st T ≤ x7 := by rw [hst]; exact q_run_le he
  refine zMv (lv := [(0, .ref (a 0))]) (by decide) (Nat.le_of_ble_eq_true rfl) rfl (fun J hJ hR => ?_)
  have A34 : J (mV g a x0 x1 127 x3 x4 x5 x6 x7 x8 ((q_st T)) (T.2.2.2.2.1) x11 x12 x13 x14 x15 x16 x17 x18 x19 x20) 34 [(0, .ref (a 0))] [] := by
    refine z_aload_n hJ d_Mo_advance_34 0 rfl ?_
    refine z_aload_n hJ d_Mo_advance_35 0 rfl ?_
    refine z_get hJ d_Mo_advance_36 hc_Mo f_Mo_193 0 rfl rfl (by decide) ?_
    refine z_put (w' := mV g a x0 x1 127 x3 x4 x5 x6 x7 x8 ((q_st T)) (((q_st T))) x11 x12 x13 x14 x15 x16 x17 x18 x19 x20) hJ d_Mo_advance_39 hc_Mo f_Mo_190 0 rfl rfl rfl rfl (by decide) (Nat.le_of_ble_eq_true rfl) rfl ?_
    refine z_aload_n hJ d_Mo_advance_42 0 rfl ?_
    refine z_aload_n hJ d_Mo_advance_43 0 rfl ?_
    refine z_get hJ d_Mo_advance_44 hc_Mo f_Mo_193 0 rfl rfl (by decide) ?_
    refine z_callVi hJ (m_Mo_byteAt (P := zP0) h120 (by omega)) k_Mo_196 zL.id d_Mo_advance_47 hc_Mo 0 rfl rfl rfl (Nat.le_of_ble_eq_true rfl) ⟨by decide, by decide⟩ ?_
    refine z_c (y := (q_bt_ x6 x7 (q_st T))) rfl ?_
    refine z_istore_n (lv' := [(0, _), (1, _)]) hJ d_Mo_advance_50 (by decide) rfl ?_
    refine z_aload_n hJ d_Mo_advance_51 0 rfl ?_
    refine z_iload_n hJ d_Mo_advance_52 1 rfl ?_
    refine z_if_ge hJ d_Mo_advance_53 (fun c_53 => ?_) (fun c_53 => ?_)
    · skip
      try dsimp only at c_53
      have hlt : q_st T < x7 := (q_bt_ge hb).mp c_53
      refine z_iload_n hJ d_Mo_advance_60 1 rfl ?_
      refine z_callSi hJ m_Mo_isLetter k_Mo_199 zL.nil d_Mo_advance_61 rfl rfl (Nat.le_of_ble_eq_true rfl) ⟨by decide, by decide⟩ ?_
      refine zb_eq hJ d_Mo_advance_64 (fun c_64 => ?_) (fun c_64 => ?_)
      · skip
        try dsimp only at c_64
        have hlet : q_let x6 (q_st T) = false := by rw [q_bt_in hlt] at c_64; exact c_64
        refine z_iload_n hJ d_Mo_advance_71 1 rfl ?_
        refine z_callSi hJ m_Mo_isDigit k_Mo_202 zL.nil d_Mo_advance_72 rfl rfl (Nat.le_of_ble_eq_true rfl) ⟨by decide, by decide⟩ ?_
        refine zb_eq hJ d_Mo_advance_75 (fun c_75 => ?_) (fun c_75 => ?_)
        · skip
          try dsimp only at c_75
          have hdig : q_dig x6 (q_st T) = false := by rw [q_bt_in hlt] at c_75; exact c_75
          refine z_iconst (v := 3) hJ d_Mo_advance_82 (by decide) ?_
          refine z_put (w' := mV g a x0 x1 127 x3 x4 x5 x6 x7 ((3)) ((q_st T)) (((q_st T))) x11 x12 x13 x14 x15 x16 x17 x18 x19 x20) hJ d_Mo_advance_83 hc_Mo f_Mo_205 0 rfl rfl rfl rfl (by decide) (Nat.le_of_ble_eq_true rfl) rfl ?_
          refine z_aload_n hJ d_Mo_advance_86 0 rfl ?_
          refine z_lconst (v := 0) hJ d_Mo_advance_87 (by decide) ?_
          refine z_put (w' := mV g a x0 x1 127 x3 x4 x5 x6 x7 ((3)) ((q_st T)) (((q_st T))) 0 x12 x13 x14 x15 x16 x17 x18 x19 x20) hJ d_Mo_advance_88 hc_Mo f_Mo_208 0 rfl rfl rfl rfl (by decide) (Nat.le_of_ble_eq_true rfl) rfl ?_
          refine z_aload_n hJ d_Mo_advance_91 0 rfl ?_
          refine z_aload_n hJ d_Mo_advance_92 0 rfl ?_
          refine z_get hJ d_Mo_advance_93 hc_Mo f_Mo_205 0 rfl rfl (by decide) ?_
          skip
          refine z_iconst (v := 2) hJ d_Mo_advance_96 (by decide) ?_
          refine z_icmp_ne hJ d_Mo_advance_97 (fun _ => ?_) (fun c => absurd c (by decide))
          refine z_iload_n hJ d_Mo_advance_104 1 rfl ?_
          refine z_put (w' := mV g a x0 x1 127 x3 x4 x5 x6 x7 ((3)) ((q_st T)) (((q_st T))) 0 ((q_bt_ x6 x7 (q_st T))) x13 x14 x15 x16 x17 x18 x19 x20) hJ d_Mo_advance_105 hc_Mo f_Mo_212 0 rfl rfl rfl rfl (by decide) (Nat.le_of_ble_eq_true rfl) rfl ?_
          refine z_aload_n hJ d_Mo_advance_108 0 rfl ?_
          refine z_get hJ d_Mo_advance_109 hc_Mo f_Mo_205 0 rfl rfl (by decide) ?_
          skip
          refine z_iconst (v := 3) hJ d_Mo_advance_112 (by decide) ?_
          refine z_icmp_ne hJ d_Mo_advance_113 (fun c => absurd c (by decide)) (fun _ => ?_)
          refine z_aload_n hJ d_Mo_advance_116 0 rfl ?_
          refine z_dup hJ d_Mo_advance_117 rfl ?_
          refine z_get hJ d_Mo_advance_118 hc_Mo f_Mo_190 0 rfl rfl (by decide) ?_
          refine z_iconst (v := 1) hJ d_Mo_advance_121 (by decide) ?_
          refine z_iadd hJ d_Mo_advance_122 ?_
          refine z_c (y := nI (q_st T + 1)) (nI_1 _) ?_
          refine z_put (w' := mV g a x0 x1 127 x3 x4 x5 x6 x7 ((3)) ((q_st T)) ((q_st T + 1)) 0 ((q_bt_ x6 x7 (q_st T))) x13 x14 x15 x16 x17 x18 x19 x20) hJ d_Mo_advance_123 hc_Mo f_Mo_190 0 rfl rfl rfl rfl (by decide) (Nat.le_of_ble_eq_true rfl) rfl ?_
          refine z_aload_n hJ d_Mo_advance_126 0 rfl ?_
          refine z_get hJ d_Mo_advance_127 hc_Mo f_Mo_205 0 rfl rfl (by decide) ?_
          skip
          refine z_iconst (v := 1) hJ d_Mo_advance_130 (by decide) ?_
          refine z_icmp_ne hJ d_Mo_advance_131 (fun _ => ?_) (fun c => absurd c (by decide))
          refine z_aload_n hJ d_Mo_advance_207 0 rfl ?_
          refine z_get hJ d_Mo_advance_208 hc_Mo f_Mo_205 0 rfl rfl (by decide) ?_
          skip
          refine z_iconst (v := 2) hJ d_Mo_advance_211 (by decide) ?_
          refine z_icmp_ne hJ d_Mo_advance_212 (fun _ => ?_) (fun c => absurd c (by decide))
          exact z_rv hR d_Mo_advance_280 (by
              obtain ⟨t1, t2, t3, t4, t5⟩ := q_tok3 (T := T) (by rw [h7]; exact hlt) (by rw [h6]; exact hlet) (by rw [h6]; exact hdig)
              rw [t1, t2, t3, t4, t5]
              rw [q_bt_in hlt, h6])
        · skip
          try dsimp only at c_75
          have hdig : q_dig x6 (q_st T) = true := by rw [q_bt_in hlt] at c_75; exact c_75
          refine z_iconst (v := 2) hJ d_Mo_advance_78 (by decide) ?_
          refine z_goto hJ d_Mo_advance_79 ?_
          refine z_put (w' := mV g a x0 x1 127 x3 x4 x5 x6 x7 ((2)) ((q_st T)) (((q_st T))) x11 x12 x13 x14 x15 x16 x17 x18 x19 x20) hJ d_Mo_advance_83 hc_Mo f_Mo_205 0 rfl rfl rfl rfl (by decide) (Nat.le_of_ble_eq_true rfl) rfl ?_
          refine z_aload_n hJ d_Mo_advance_86 0 rfl ?_
          refine z_lconst (v := 0) hJ d_Mo_advance_87 (by decide) ?_
          refine z_put (w' := mV g a x0 x1 127 x3 x4 x5 x6 x7 ((2)) ((q_st T)) (((q_st T))) 0 x12 x13 x14 x15 x16 x17 x18 x19 x20) hJ d_Mo_advance_88 hc_Mo f_Mo_208 0 rfl rfl rfl rfl (by decide) (Nat.le_of_ble_eq_true rfl) rfl ?_
          refine z_aload_n hJ d_Mo_advance_91 0 rfl ?_
          refine z_aload_n hJ d_Mo_advance_92 0 rfl ?_
          refine z_get hJ d_Mo_advance_93 hc_Mo f_Mo_205 0 rfl rfl (by decide) ?_
          skip
          refine z_iconst (v := 2) hJ d_Mo_advance_96 (by decide) ?_
          refine z_icmp_ne hJ d_Mo_advance_97 (fun c => absurd c (by decide)) (fun _ => ?_)
          refine z_iconst (v := 0) hJ d_Mo_advance_100 (by decide) ?_
          refine z_goto hJ d_Mo_advance_101 ?_
          refine z_put (w' := mV g a x0 x1 127 x3 x4 x5 x6 x7 ((2)) ((q_st T)) (((q_st T))) 0 0 x13 x14 x15 x16 x17 x18 x19 x20) hJ d_Mo_advance_105 hc_Mo f_Mo_212 0 rfl rfl rfl rfl (by decide) (Nat.le_of_ble_eq_true rfl) rfl ?_
          refine z_aload_n hJ d_Mo_advance_108 0 rfl ?_
          refine z_get hJ d_Mo_advance_109 hc_Mo f_Mo_205 0 rfl rfl (by decide) ?_
          skip
          refine z_iconst (v := 3) hJ d_Mo_advance_112 (by decide) ?_
          refine z_icmp_ne hJ d_Mo_advance_113 (fun _ => ?_) (fun c => absurd c (by decide))
          refine z_aload_n hJ d_Mo_advance_126 0 rfl ?_
          refine z_get hJ d_Mo_advance_127 hc_Mo f_Mo_205 0 rfl rfl (by decide) ?_
          skip
          refine z_iconst (v := 1) hJ d_Mo_advance_130 (by decide) ?_
          refine z_icmp_ne hJ d_Mo_advance_131 (fun _ => ?_) (fun c => absurd c (by decide))
          have L207 : ∀ j : Nat, j ≤ x7 → q_st T ≤ j → (∃ v, v ≤ 1000 ∧ q_num x6 (q_st T) (j - q_st T) = nI v) → q_run (q_dig x6) x7 (q_st T) = q_run (q_dig x6) x7 j → J (mV g a x0 x1 127 x3 x4 x5 x6 x7 ((2)) ((q_st T)) j 0 (q_num x6 (q_st T) (j - q_st T)) x13 x14 x15 x16 x17 x18 x19 x20) 207 [(0, .ref (a 0))] [] := by
            refine zloop (x7) (fun j hjN ih => ?_)
            intro hsj hv hq
            obtain ⟨v, hv, ev⟩ := hv
            refine z_aload_n hJ d_Mo_advance_207 0 rfl ?_
            refine z_get hJ d_Mo_advance_208 hc_Mo f_Mo_205 0 rfl rfl (by decide) ?_
            skip
            refine z_iconst (v := 2) hJ d_Mo_advance_211 (by decide) ?_
            refine z_icmp_ne hJ d_Mo_advance_212 (fun c => absurd c (by decide)) (fun _ => ?_)
            refine z_aload_n hJ d_Mo_advance_215 0 rfl ?_
            refine z_aload_n hJ d_Mo_advance_216 0 rfl ?_
            refine z_get hJ d_Mo_advance_217 hc_Mo f_Mo_190 0 rfl rfl (by decide) ?_
            refine z_callVi hJ (m_Mo_byteAt (P := zP0) h120 (by omega)) k_Mo_196 zL.id d_Mo_advance_220 hc_Mo 0 rfl rfl rfl (Nat.le_of_ble_eq_true rfl) ⟨by decide, by decide⟩ ?_
            refine z_c (y := q_bt_ x6 x7 j) rfl ?_
            refine z_callSi hJ m_Mo_isDigit k_Mo_202 zL.nil d_Mo_advance_223 rfl rfl (Nat.le_of_ble_eq_true rfl) ⟨by decide, by decide⟩ ?_
            refine zb_eq hJ d_Mo_advance_226 (fun c_226 => ?_) (fun c_226 => ?_)
            · skip
              try dsimp only at c_226
              have hje : q_run (q_dig x6) x7 (q_st T) = j := hq.trans (q_run_stop (fun q => by rw [q_bt_in q.1, show q_in (x6 j) 48 57 = true from q.2] at c_226; exact absurd c_226 (by decide)))
              exact z_rv hR d_Mo_advance_280 (by
                  obtain ⟨t1, t2, t3, t4, t5⟩ := q_tok2 (T := T) (by rw [h7]; exact hlt) (by rw [h6]; exact hlet) (by rw [h6]; exact hdig)
                  rw [t1, t2, t3, t4, t5]
                  rw [h6, h7, hje])
            · skip
              try dsimp only at c_226
              have hjl := q_bt_q (by decide) c_226
              obtain ⟨cb, hcb, ecb⟩ := hb j hjl.1
              obtain ⟨dg, hdg, edg⟩ := q_dig_d hcb ecb hjl.2
              have hds := q_dig_s hv hdg
              have hnx : q_num x6 (q_st T) (j + 1 - q_st T) = q_min 1000 (nI v * 10 + nI (48 + dg) - 48) := by rw [show j + 1 - q_st T = (j - q_st T) + 1 by omega, q_num, show q_st T + (j - q_st T) = j by omega, ev, edg]
              refine z_aload_n hJ d_Mo_advance_229 0 rfl ?_
              refine z_aload_n hJ d_Mo_advance_230 0 rfl ?_
              refine z_get hJ d_Mo_advance_231 hc_Mo f_Mo_212 0 rfl rfl (by decide) ?_
              refine z_c (y := nI v) ev ?_
              refine z_bipush (v := 99) hJ d_Mo_advance_234 (by decide) ?_
              refine z_icmp_le hJ d_Mo_advance_236 (fun c_236 => ?_) (fun c_236 => ?_)
              · skip
                try dsimp only at c_236
                have hle := c_236
                refine z_bipush (v := 10) hJ d_Mo_advance_245 (by decide) ?_
                refine z_aload_n hJ d_Mo_advance_247 0 rfl ?_
                refine z_get hJ d_Mo_advance_248 hc_Mo f_Mo_212 0 rfl rfl (by decide) ?_
                refine z_c (y := nI v) ev ?_
                refine z_imul hJ d_Mo_advance_251 ?_
                refine z_aload_n hJ d_Mo_advance_252 0 rfl ?_
                refine z_aload_n hJ d_Mo_advance_253 0 rfl ?_
                refine z_get hJ d_Mo_advance_254 hc_Mo f_Mo_190 0 rfl rfl (by decide) ?_
                refine z_callVi hJ (m_Mo_byteAt (P := zP0) h120 (by omega)) k_Mo_196 zL.id d_Mo_advance_257 hc_Mo 0 rfl rfl rfl (Nat.le_of_ble_eq_true rfl) ⟨by decide, by decide⟩ ?_
                refine z_c (y := nI (48 + dg)) ((q_bt_in hjl.1).trans edg) ?_
                refine z_iadd hJ d_Mo_advance_260 ?_
                refine z_bipush (v := 48) hJ d_Mo_advance_261 (by decide) ?_
                refine z_isub hJ d_Mo_advance_263 ?_
                refine z_put (w' := mV g a x0 x1 127 x3 x4 x5 x6 x7 ((2)) ((q_st T)) j 0 ((10 * nI v + nI (48 + dg) - 48)) x13 x14 x15 x16 x17 x18 x19 x20) hJ d_Mo_advance_264 hc_Mo f_Mo_212 0 rfl rfl rfl rfl (by decide) (Nat.le_of_ble_eq_true rfl) rfl ?_
                refine z_aload_n hJ d_Mo_advance_267 0 rfl ?_
                refine z_dup hJ d_Mo_advance_268 rfl ?_
                refine z_get hJ d_Mo_advance_269 hc_Mo f_Mo_190 0 rfl rfl (by decide) ?_
                refine z_iconst (v := 1) hJ d_Mo_advance_272 (by decide) ?_
                refine z_iadd hJ d_Mo_advance_273 ?_
                refine z_c (y := nI (j + 1)) (nI_1 _) ?_
                refine z_put (w' := mV g a x0 x1 127 x3 x4 x5 x6 x7 ((2)) ((q_st T)) ((j + 1)) 0 ((10 * nI v + nI (48 + dg) - 48)) x13 x14 x15 x16 x17 x18 x19 x20) hJ d_Mo_advance_274 hc_Mo f_Mo_190 0 rfl rfl rfl rfl (by decide) (Nat.le_of_ble_eq_true rfl) rfl ?_
                refine z_goto hJ d_Mo_advance_277 ?_
                have e := ih hjl.1 (by omega) ⟨_, Nat.min_le_left _ _, hnx.trans hds.2⟩ (hq.trans (q_run_go hjl.1 hjl.2))
                rw [hnx, ← hds.1, if_pos hle] at e
                exact e
              · skip
                try dsimp only at c_236
                have hle := c_236
                refine z_sipush (v := 1000) hJ d_Mo_advance_239 (by decide) ?_
                refine z_goto hJ d_Mo_advance_242 ?_
                refine z_put (w' := mV g a x0 x1 127 x3 x4 x5 x6 x7 ((2)) ((q_st T)) j 0 1000 x13 x14 x15 x16 x17 x18 x19 x20) hJ d_Mo_advance_264 hc_Mo f_Mo_212 0 rfl rfl rfl rfl (by decide) (Nat.le_of_ble_eq_true rfl) rfl ?_
                refine z_aload_n hJ d_Mo_advance_267 0 rfl ?_
                refine z_dup hJ d_Mo_advance_268 rfl ?_
                refine z_get hJ d_Mo_advance_269 hc_Mo f_Mo_190 0 rfl rfl (by decide) ?_
                refine z_iconst (v := 1) hJ d_Mo_advance_272 (by decide) ?_
                refine z_iadd hJ d_Mo_advance_273 ?_
                refine z_c (y := nI (j + 1)) (nI_1 _) ?_
                refine z_put (w' := mV g a x0 x1 127 x3 x4 x5 x6 x7 ((2)) ((q_st T)) ((j + 1)) 0 1000 x13 x14 x15 x16 x17 x18 x19 x20) hJ d_Mo_advance_274 hc_Mo f_Mo_190 0 rfl rfl rfl rfl (by decide) (Nat.le_of_ble_eq_true rfl) rfl ?_
                refine z_goto hJ d_Mo_advance_277 ?_
                have e := ih hjl.1 (by omega) ⟨_, Nat.min_le_left _ _, hnx.trans hds.2⟩ (hq.trans (q_run_go hjl.1 hjl.2))
                rw [hnx, ← hds.1, if_neg hle] at e
                exact e
          refine z_drop hJ [0] rfl ?_
          have e := L207 _ hs (Nat.le_refl _) ⟨0, by decide, by rw [Nat.sub_self]; rfl⟩ rfl
          rw [Nat.sub_self] at e
          exact e
      · skip
        try dsimp only at c_64
        have hlet : q_let x6 (q_st T) = true := by rw [q_bt_in hlt] at c_64; exact c_64
        refine z_iconst (v := 1) hJ d_Mo_advance_67 (by decide) ?_
        refine z_goto hJ d_Mo_advance_68 ?_
        refine z_put (w' := mV g a x0 x1 127 x3 x4 x5 x6 x7 ((1)) ((q_st T)) (((q_st T))) x11 x12 x13 x14 x15 x16 x17 x18 x19 x20) hJ d_Mo_advance_83 hc_Mo f_Mo_205 0 rfl rfl rfl rfl (by decide) (Nat.le_of_ble_eq_true rfl) rfl ?_
        refine z_aload_n hJ d_Mo_advance_86 0 rfl ?_
        refine z_lconst (v := 0) hJ d_Mo_advance_87 (by decide) ?_
        refine z_put (w' := mV g a x0 x1 127 x3 x4 x5 x6 x7 ((1)) ((q_st T)) (((q_st T))) 0 x12 x13 x14 x15 x16 x17 x18 x19 x20) hJ d_Mo_advance_88 hc_Mo f_Mo_208 0 rfl rfl rfl rfl (by decide) (Nat.le_of_ble_eq_true rfl) rfl ?_
        refine z_aload_n hJ d_Mo_advance_91 0 rfl ?_
        refine z_aload_n hJ d_Mo_advance_92 0 rfl ?_
        refine z_get hJ d_Mo_advance_93 hc_Mo f_Mo_205 0 rfl rfl (by decide) ?_
        skip
        refine z_iconst (v := 2) hJ d_Mo_advance_96 (by decide) ?_
        refine z_icmp_ne hJ d_Mo_advance_97 (fun _ => ?_) (fun c => absurd c (by decide))
        refine z_iload_n hJ d_Mo_advance_104 1 rfl ?_
        refine z_put (w' := mV g a x0 x1 127 x3 x4 x5 x6 x7 ((1)) ((q_st T)) (((q_st T))) 0 ((q_bt_ x6 x7 (q_st T))) x13 x14 x15 x16 x17 x18 x19 x20) hJ d_Mo_advance_105 hc_Mo f_Mo_212 0 rfl rfl rfl rfl (by decide) (Nat.le_of_ble_eq_true rfl) rfl ?_
        refine z_aload_n hJ d_Mo_advance_108 0 rfl ?_
        refine z_get hJ d_Mo_advance_109 hc_Mo f_Mo_205 0 rfl rfl (by decide) ?_
        skip
        refine z_iconst (v := 3) hJ d_Mo_advance_112 (by decide) ?_
        refine z_icmp_ne hJ d_Mo_advance_113 (fun _ => ?_) (fun c => absurd c (by decide))
        have L126 : ∀ j : Nat, j ≤ x7 → q_st T ≤ j → q_run (q_let x6) x7 (q_st T) = q_run (q_let x6) x7 j → J (mV g a x0 x1 127 x3 x4 x5 x6 x7 ((1)) ((q_st T)) j (q_hs x6 (q_st T) (j - q_st T)) ((q_bt_ x6 x7 (q_st T))) x13 x14 x15 x16 x17 x18 x19 x20) 126 [(0, .ref (a 0))] [] := by
          refine zloop (x7) (fun j hjN ih => ?_)
          intro hsj hq
          refine z_aload_n hJ d_Mo_advance_126 0 rfl ?_
          refine z_get hJ d_Mo_advance_127 hc_Mo f_Mo_205 0 rfl rfl (by decide) ?_
          skip
          refine z_iconst (v := 1) hJ d_Mo_advance_130 (by decide) ?_
          refine z_icmp_ne hJ d_Mo_advance_131 (fun c => absurd c (by decide)) (fun _ => ?_)
          refine z_aload_n hJ d_Mo_advance_134 0 rfl ?_
          refine z_aload_n hJ d_Mo_advance_135 0 rfl ?_
          refine z_get hJ d_Mo_advance_136 hc_Mo f_Mo_190 0 rfl rfl (by decide) ?_
          refine z_callVi hJ (m_Mo_byteAt (P := zP0) h120 (by omega)) k_Mo_196 zL.id d_Mo_advance_139 hc_Mo 0 rfl rfl rfl (Nat.le_of_ble_eq_true rfl) ⟨by decide, by decide⟩ ?_
          refine z_c (y := q_bt_ x6 x7 j) rfl ?_
          refine z_callSi hJ m_Mo_isLetter k_Mo_199 zL.nil d_Mo_advance_142 rfl rfl (Nat.le_of_ble_eq_true rfl) ⟨by decide, by decide⟩ ?_
          refine zb_eq hJ d_Mo_advance_145 (fun c_145 => ?_) (fun c_145 => ?_)
          · skip
            try dsimp only at c_145
            have hje : q_run (q_let x6) x7 (q_st T) = j := hq.trans (q_run_stop (fun q => by rw [q_bt_in q.1, show q_in (x6 j) 97 122 = true from q.2] at c_145; exact absurd c_145 (by decide)))
            refine z_aload_n hJ d_Mo_advance_207 0 rfl ?_
            refine z_get hJ d_Mo_advance_208 hc_Mo f_Mo_205 0 rfl rfl (by decide) ?_
            skip
            refine z_iconst (v := 2) hJ d_Mo_advance_211 (by decide) ?_
            refine z_icmp_ne hJ d_Mo_advance_212 (fun _ => ?_) (fun c => absurd c (by decide))
            exact z_rv hR d_Mo_advance_280 (by
                obtain ⟨t1, t2, t3, t4, t5⟩ := q_tok1 (T := T) (by rw [h7]; exact hlt) (by rw [h6]; exact hlet)
                rw [t1, t2, t3, t4, t5]
                rw [q_bt_in hlt, h6, h7, hje])
          · skip
            try dsimp only at c_145
            have hjl := q_bt_q (by decide) c_145
            refine z_aload_n hJ d_Mo_advance_148 0 rfl ?_
            refine z_aload_n hJ d_Mo_advance_149 0 rfl ?_
            refine z_get hJ d_Mo_advance_150 hc_Mo f_Mo_190 0 rfl rfl (by decide) ?_
            refine z_aload_n hJ d_Mo_advance_153 0 rfl ?_
            refine z_get hJ d_Mo_advance_154 hc_Mo f_Mo_193 0 rfl rfl (by decide) ?_
            refine z_isub hJ d_Mo_advance_157 ?_
            refine z_c (y := nI (j - q_st T)) (pk_sub hsj) ?_
            refine z_bipush (v := 12) hJ d_Mo_advance_158 (by decide) ?_
            refine z_icmp_ge hJ d_Mo_advance_160 (fun c_160 => ?_) (fun c_160 => ?_)
            · skip
              try dsimp only at c_160
              have h_160 : 12 ≤ (j - q_st T) := by
                have e := nI_leI (a := 12) (b := (j - q_st T)) (by omega) (by omega)
                exact e.mp c_160
              refine z_ldc2 hJ d_Mo_advance_188 c_Mo_219 ?_
              refine z_put (w' := mV g a x0 x1 127 x3 x4 x5 x6 x7 ((1)) ((q_st T)) j ((-1)) ((q_bt_ x6 x7 (q_st T))) x13 x14 x15 x16 x17 x18 x19 x20) hJ d_Mo_advance_191 hc_Mo f_Mo_208 0 rfl rfl rfl rfl (by decide) (Nat.le_of_ble_eq_true rfl) rfl ?_
              refine z_aload_n hJ d_Mo_advance_194 0 rfl ?_
              refine z_dup hJ d_Mo_advance_195 rfl ?_
              refine z_get hJ d_Mo_advance_196 hc_Mo f_Mo_190 0 rfl rfl (by decide) ?_
              refine z_iconst (v := 1) hJ d_Mo_advance_199 (by decide) ?_
              refine z_iadd hJ d_Mo_advance_200 ?_
              refine z_c (y := nI (j + 1)) (nI_1 _) ?_
              refine z_put (w' := mV g a x0 x1 127 x3 x4 x5 x6 x7 ((1)) ((q_st T)) ((j + 1)) ((-1)) ((q_bt_ x6 x7 (q_st T))) x13 x14 x15 x16 x17 x18 x19 x20) hJ d_Mo_advance_201 hc_Mo f_Mo_190 0 rfl rfl rfl rfl (by decide) (Nat.le_of_ble_eq_true rfl) rfl ?_
              refine z_goto hJ d_Mo_advance_204 ?_
              have e := ih hjl.1 (by omega) (hq.trans (q_run_go hjl.1 hjl.2))
              rw [show j + 1 - q_st T = (j - q_st T) + 1 by omega, q_hs, if_neg (by omega)] at e
              exact e
            · skip
              try dsimp only at c_160
              have h_160 : ¬ (12 ≤ (j - q_st T)) := by
                have e := nI_leI (a := 12) (b := (j - q_st T)) (by omega) (by omega)
                exact fun q => c_160 (e.mpr q)
              refine z_ldc2 hJ d_Mo_advance_163 c_Mo_215 ?_
              refine z_aload_n hJ d_Mo_advance_166 0 rfl ?_
              refine z_get hJ d_Mo_advance_167 hc_Mo f_Mo_208 0 rfl rfl (by decide) ?_
              refine z_lmul hJ d_Mo_advance_170 ?_
              refine z_aload_n hJ d_Mo_advance_171 0 rfl ?_
              refine z_aload_n hJ d_Mo_advance_172 0 rfl ?_
              refine z_get hJ d_Mo_advance_173 hc_Mo f_Mo_190 0 rfl rfl (by decide) ?_
              refine z_callVi hJ (m_Mo_byteAt (P := zP0) h120 (by omega)) k_Mo_196 zL.id d_Mo_advance_176 hc_Mo 0 rfl rfl rfl (Nat.le_of_ble_eq_true rfl) ⟨by decide, by decide⟩ ?_
              refine z_c (y := x6 j) (q_bt_in hjl.1) ?_
              refine z_i2l hJ d_Mo_advance_179 ?_
              refine z_ladd hJ d_Mo_advance_180 ?_
              refine z_ldc2 hJ d_Mo_advance_181 c_Mo_217 ?_
              refine z_lsub hJ d_Mo_advance_184 ?_
              refine z_goto hJ d_Mo_advance_185 ?_
              refine z_put (w' := mV g a x0 x1 127 x3 x4 x5 x6 x7 ((1)) ((q_st T)) j ((27 * q_hs x6 (q_st T) (j - q_st T) + (x6 j).toInt64 - 96)) ((q_bt_ x6 x7 (q_st T))) x13 x14 x15 x16 x17 x18 x19 x20) hJ d_Mo_advance_191 hc_Mo f_Mo_208 0 rfl rfl rfl rfl (by decide) (Nat.le_of_ble_eq_true rfl) rfl ?_
              refine z_aload_n hJ d_Mo_advance_194 0 rfl ?_
              refine z_dup hJ d_Mo_advance_195 rfl ?_
              refine z_get hJ d_Mo_advance_196 hc_Mo f_Mo_190 0 rfl rfl (by decide) ?_
              refine z_iconst (v := 1) hJ d_Mo_advance_199 (by decide) ?_
              refine z_iadd hJ d_Mo_advance_200 ?_
              refine z_c (y := nI (j + 1)) (nI_1 _) ?_
              refine z_put (w' := mV g a x0 x1 127 x3 x4 x5 x6 x7 ((1)) ((q_st T)) ((j + 1)) ((27 * q_hs x6 (q_st T) (j - q_st T) + (x6 j).toInt64 - 96)) ((q_bt_ x6 x7 (q_st T))) x13 x14 x15 x16 x17 x18 x19 x20) hJ d_Mo_advance_201 hc_Mo f_Mo_190 0 rfl rfl rfl rfl (by decide) (Nat.le_of_ble_eq_true rfl) rfl ?_
              refine z_goto hJ d_Mo_advance_204 ?_
              have e := ih hjl.1 (by omega) (hq.trans (q_run_go hjl.1 hjl.2))
              rw [show j + 1 - q_st T = (j - q_st T) + 1 by omega, q_hs, if_pos (by omega), show q_st T + (j - q_st T) = j by omega] at e
              exact e
        refine z_drop hJ [0] rfl ?_
        have e := L126 _ hs (Nat.le_refl _) rfl
        rw [Nat.sub_self] at e
        exact e
    · skip
      try dsimp only at c_53
      have hlt : ¬ q_st T < x7 := fun q => c_53 ((q_bt_ge hb).mpr q)
      refine z_iconst (v := 0) hJ d_Mo_advance_56 (by decide) ?_
      refine z_goto hJ d_Mo_advance_57 ?_
      refine z_put (w' := mV g a x0 x1 127 x3 x4 x5 x6 x7 ((0)) ((q_st T)) (((q_st T))) x11 x12 x13 x14 x15 x16 x17 x18 x19 x20) hJ d_Mo_advance_83 hc_Mo f_Mo_205 0 rfl rfl rfl rfl (by decide) (Nat.le_of_ble_eq_true rfl) rfl ?_
      refine z_aload_n hJ d_Mo_advance_86 0 rfl ?_
      refine z_lconst (v := 0) hJ d_Mo_advance_87 (by decide) ?_
      refine z_put (w' := mV g a x0 x1 127 x3 x4 x5 x6 x7 ((0)) ((q_st T)) (((q_st T))) 0 x12 x13 x14 x15 x16 x17 x18 x19 x20) hJ d_Mo_advance_88 hc_Mo f_Mo_208 0 rfl rfl rfl rfl (by decide) (Nat.le_of_ble_eq_true rfl) rfl ?_
      refine z_aload_n hJ d_Mo_advance_91 0 rfl ?_
      refine z_aload_n hJ d_Mo_advance_92 0 rfl ?_
      refine z_get hJ d_Mo_advance_93 hc_Mo f_Mo_205 0 rfl rfl (by decide) ?_
      skip
      refine z_iconst (v := 2) hJ d_Mo_advance_96 (by decide) ?_
      refine z_icmp_ne hJ d_Mo_advance_97 (fun _ => ?_) (fun c => absurd c (by decide))
      refine z_iload_n hJ d_Mo_advance_104 1 rfl ?_
      refine z_put (w' := mV g a x0 x1 127 x3 x4 x5 x6 x7 ((0)) ((q_st T)) (((q_st T))) 0 ((q_bt_ x6 x7 (q_st T))) x13 x14 x15 x16 x17 x18 x19 x20) hJ d_Mo_advance_105 hc_Mo f_Mo_212 0 rfl rfl rfl rfl (by decide) (Nat.le_of_ble_eq_true rfl) rfl ?_
      refine z_aload_n hJ d_Mo_advance_108 0 rfl ?_
      refine z_get hJ d_Mo_advance_109 hc_Mo f_Mo_205 0 rfl rfl (by decide) ?_
      skip
      refine z_iconst (v := 3) hJ d_Mo_advance_112 (by decide) ?_
      refine z_icmp_ne hJ d_Mo_advance_113 (fun _ => ?_) (fun c => absurd c (by decide))
      refine z_aload_n hJ d_Mo_advance_126 0 rfl ?_
      refine z_get hJ d_Mo_advance_127 hc_Mo f_Mo_205 0 rfl rfl (by decide) ?_
      skip
      refine z_iconst (v := 1) hJ d_Mo_advance_130 (by decide) ?_
      refine z_icmp_ne hJ d_Mo_advance_131 (fun _ => ?_) (fun c => absurd c (by decide))
      refine z_aload_n hJ d_Mo_advance_207 0 rfl ?_
      refine z_get hJ d_Mo_advance_208 hc_Mo f_Mo_205 0 rfl rfl (by decide) ?_
      skip
      refine z_iconst (v := 2) hJ d_Mo_advance_211 (by decide) ?_
      refine z_icmp_ne hJ d_Mo_advance_212 (fun _ => ?_) (fun c => absurd c (by decide))
      exact z_rv hR d_Mo_advance_280 (by
          obtain ⟨t1, t2, t3, t4, t5⟩ := q_tok0 (T := T) (by rw [h7]; omega)
          rw [t1, t2, t3, t4, t5]
          rw [q_bt_out hlt])
  refine z_aload_n hJ d_Mo_advance_0 0 rfl ?_
  refine z_aload_n hJ d_Mo_advance_1 0 rfl ?_
  refine z_get hJ d_Mo_advance_2 hc_Mo f_Mo_190 0 rfl rfl (by decide) ?_
  refine z_put (w' := mV g a x0 x1 127 x3 x4 x5 x6 x7 x8 (T.2.2.2.2.1) (T.2.2.2.2.1) x11 x12 x13 x14 x15 x16 x17 x18 x19 x20) hJ d_Mo_advance_5 hc_Mo f_Mo_193 0 rfl rfl rfl rfl (by decide) (Nat.le_of_ble_eq_true rfl) rfl ?_
  have L8 : ∀ j : Nat, j ≤ x7 → q_st T = q_run (q_blank x6) x7 j → J (mV g a x0 x1 127 x3 x4 x5 x6 x7 x8 j (T.2.2.2.2.1) x11 x12 x13 x14 x15 x16 x17 x18 x19 x20) 8 [(0, .ref (a 0))] [] := by
    refine zloop (x7) (fun j hjN ih => ?_)
    intro hq
    refine z_aload_n hJ d_Mo_advance_8 0 rfl ?_
    refine z_aload_n hJ d_Mo_advance_9 0 rfl ?_
    refine z_get hJ d_Mo_advance_10 hc_Mo f_Mo_193 0 rfl rfl (by decide) ?_
    refine z_callVi hJ (m_Mo_byteAt (P := zP0) h120 (by omega)) k_Mo_196 zL.id d_Mo_advance_13 hc_Mo 0 rfl rfl rfl (Nat.le_of_ble_eq_true rfl) ⟨by decide, by decide⟩ ?_
    refine z_c (y := q_bt_ x6 x7 j) rfl ?_
    refine z_bipush (v := 32) hJ d_Mo_advance_16 (by decide) ?_
    refine z_icmp_ne hJ d_Mo_advance_18 (fun c_18 => ?_) (fun c_18 => ?_)
    · skip
      try dsimp only at c_18
      obtain hjs : j = q_st T := (hq.trans (q_run_stop (fun q => c_18 ((q_bt_in q.1).trans (by simpa [q_blank] using q.2))))).symm
      subst hjs
      exact A34
    · skip
      try dsimp only at c_18
      have hjl := q_bt_e (by decide) c_18
      refine z_aload_n hJ d_Mo_advance_21 0 rfl ?_
      refine z_dup hJ d_Mo_advance_22 rfl ?_
      refine z_get hJ d_Mo_advance_23 hc_Mo f_Mo_193 0 rfl rfl (by decide) ?_
      refine z_iconst (v := 1) hJ d_Mo_advance_26 (by decide) ?_
      refine z_iadd hJ d_Mo_advance_27 ?_
      refine z_c (y := nI (j + 1)) (nI_1 _) ?_
      refine z_put (w' := mV g a x0 x1 127 x3 x4 x5 x6 x7 x8 ((j + 1)) (T.2.2.2.2.1) x11 x12 x13 x14 x15 x16 x17 x18 x19 x20) hJ d_Mo_advance_28 hc_Mo f_Mo_193 0 rfl rfl rfl rfl (by decide) (Nat.le_of_ble_eq_true rfl) rfl ?_
      refine z_goto hJ d_Mo_advance_31 ?_
      exact ih hjl.1 (hq.trans (q_run_go hjl.1 (by simp [q_blank, hjl.2])))
  exact L8 _ he hst
