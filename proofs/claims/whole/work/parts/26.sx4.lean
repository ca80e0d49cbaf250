set_option maxRecDepth 100000 in
theorem m_Sx_sheet {g : Nat → Nat → Nat} {a : Nat → Nat} {f : Nat → Int32} {P K T : RS} {tp : TS} {ss : Nat → SS} {es : Nat → Int32} {kp : Bool} {s b n : Int32}  : zM g y_Sx_sheet b_Sx_sheet 4 (some .int) 2 [.ref (a 0), .int s, .int b, .int n] (xW g a f P K T tp ss es kp) [.int (p_sheet f ss s b n).1] (xW g a (p_sheet f ss s b n).2.1 P K T tp (p_sheet f ss s b n).2.2 es kp) := by
  refine zMi (lv := [(0, .ref (a 0)), (1, .int s), (2, .int b), (3, .int n)]) (by decide) (Nat.le_of_ble_eq_true rfl) rfl (fun J hJ hR => ?_)
  rcases q_in_sh s with ⟨k, hk, rfl⟩ | hq
  · have hq := q_in_sh_t hk
    have hcl : (nI k).toNatClampNeg = k := nI_clamp (by omega)
    refine z_iload_n hJ d_Sx_sheet_0 1 rfl ?_
    refine z_callSi hJ m_Sx_isSheet k_Sx_237 zL.nil d_Sx_sheet_1 rfl rfl (Nat.le_of_ble_eq_true rfl) ⟨by decide, by decide⟩ ?_
    refine zb_eq hJ d_Sx_sheet_4 (fun c_4 => False.elim (by rw [hq] at c_4; exact absurd c_4 (by decide))) (fun c_4 => ?_)
    refine z_iload_n hJ d_Sx_sheet_7 2 rfl ?_
    refine z_if_eq hJ d_Sx_sheet_8 (fun c_8 => ?_) (fun c_8 => ?_)
    · skip
      refine z_iload_n hJ d_Sx_sheet_36 3 rfl ?_
      refine z_if_ge hJ d_Sx_sheet_37 (fun c_37 => ?_) (fun c_37 => ?_)
      · skip
        refine z_iload_n hJ d_Sx_sheet_47 3 rfl ?_
        refine z_bipush (v := 40) hJ d_Sx_sheet_48 (by decide) ?_
        refine z_icmp_le hJ d_Sx_sheet_50 (fun c_50 => ?_) (fun c_50 => ?_)
        · skip
          obtain ⟨m, hm, rfl⟩ := nI_of (x := n) (Int32.not_lt.mpr c_37)
          have hcm : (nI m).toNatClampNeg = m := nI_clamp hm
          refine z_aload_n hJ d_Sx_sheet_60 0 rfl ?_
          refine z_get hJ d_Sx_sheet_61 hc_Sx f_Sx_36 0 rfl rfl (by decide) ?_
          refine z_iload_n hJ d_Sx_sheet_64 1 rfl ?_
          refine z_aald hJ d_Sx_sheet_65 31 (k) rfl rfl (by omega) (by decide) rfl ?_
          refine z_iload_n hJ d_Sx_sheet_66 2 rfl ?_
          refine z_iload_n hJ d_Sx_sheet_67 3 rfl ?_
          refine z_callVv hJ (m_Sh_begin (b := fun j => a (32 + 2 * k + j)) (S := ss k) (n := m)) k_Sx_241 (zL_s hk) d_Sx_sheet_68 hc_Sh (32 + 2 * k) (xW_sh hk) rfl rfl (Nat.le_of_ble_eq_true rfl) ⟨by decide, by decide⟩ ?_
          refine z_aload_n hJ d_Sx_sheet_71 0 rfl ?_
          refine z_get hJ d_Sx_sheet_72 hc_Sx f_Sx_36 0 rfl rfl (by decide) ?_
          refine z_iload_n hJ d_Sx_sheet_75 1 rfl ?_
          refine z_aald hJ d_Sx_sheet_76 31 (k) rfl rfl (by omega) (by decide) rfl ?_
          refine z_get hJ d_Sx_sheet_77 hc_Sh f_Sx_244 (32 + 2 * k) (xW_sh hk) rfl (by decide) ?_
          exact z_ri hR d_Sx_sheet_80 (by
            have hb : q_bt b = true := by simp [q_bt, c_8]
            rw [q_ssU_k]
            simp [p_sheet, hq, hcl, hb, c_37, c_50, q_beg, hcm]) (by
            have hb : q_bt b = true := by simp [q_bt, c_8]
            simp [p_sheet, hq, hcl, hb, c_37, c_50, hcm])
        · skip
          refine z_aload_n hJ d_Sx_sheet_53 0 rfl ?_
          refine z_ldc hJ d_Sx_sheet_54 c_Sx_54 ?_
          refine z_callVi hJ m_Sx_tell_0 k_Sx_55 zL.id d_Sx_sheet_56 hc_Sx 0 rfl rfl rfl (Nat.le_of_ble_eq_true rfl) ⟨by decide, by decide⟩ ?_
          exact z_ri hR d_Sx_sheet_59 (by
            have hb : q_bt b = true := by simp [q_bt, c_8]
            simp [p_sheet, hq, hb, c_37, c_50]) (by
            have hb : q_bt b = true := by simp [q_bt, c_8]
            simp [p_sheet, hq, hb, c_37, c_50])
      · skip
        refine z_aload_n hJ d_Sx_sheet_40 0 rfl ?_
        refine z_ldc hJ d_Sx_sheet_41 c_Sx_240 ?_
        refine z_callVi hJ m_Sx_tell_6 k_Sx_55 zL.id d_Sx_sheet_43 hc_Sx 0 rfl rfl rfl (Nat.le_of_ble_eq_true rfl) ⟨by decide, by decide⟩ ?_
        exact z_ri hR d_Sx_sheet_46 (by
          have hb : q_bt b = true := by simp [q_bt, c_8]
          simp [p_sheet, hq, hb, c_37]) (by
          have hb : q_bt b = true := by simp [q_bt, c_8]
          simp [p_sheet, hq, hb, c_37])
    · skip
      refine z_iload_n hJ d_Sx_sheet_11 2 rfl ?_
      refine z_bipush (v := 8) hJ d_Sx_sheet_12 (by decide) ?_
      refine z_icmp_eq hJ d_Sx_sheet_14 (fun c_14 => ?_) (fun c_14 => ?_)
      · skip
        refine z_iload_n hJ d_Sx_sheet_36 3 rfl ?_
        refine z_if_ge hJ d_Sx_sheet_37 (fun c_37 => ?_) (fun c_37 => ?_)
        · skip
          refine z_iload_n hJ d_Sx_sheet_47 3 rfl ?_
          refine z_bipush (v := 40) hJ d_Sx_sheet_48 (by decide) ?_
          refine z_icmp_le hJ d_Sx_sheet_50 (fun c_50 => ?_) (fun c_50 => ?_)
          · skip
            obtain ⟨m, hm, rfl⟩ := nI_of (x := n) (Int32.not_lt.mpr c_37)
            have hcm : (nI m).toNatClampNeg = m := nI_clamp hm
            refine z_aload_n hJ d_Sx_sheet_60 0 rfl ?_
            refine z_get hJ d_Sx_sheet_61 hc_Sx f_Sx_36 0 rfl rfl (by decide) ?_
            refine z_iload_n hJ d_Sx_sheet_64 1 rfl ?_
            refine z_aald hJ d_Sx_sheet_65 31 (k) rfl rfl (by omega) (by decide) rfl ?_
            refine z_iload_n hJ d_Sx_sheet_66 2 rfl ?_
            refine z_iload_n hJ d_Sx_sheet_67 3 rfl ?_
            refine z_callVv hJ (m_Sh_begin (b := fun j => a (32 + 2 * k + j)) (S := ss k) (n := m)) k_Sx_241 (zL_s hk) d_Sx_sheet_68 hc_Sh (32 + 2 * k) (xW_sh hk) rfl rfl (Nat.le_of_ble_eq_true rfl) ⟨by decide, by decide⟩ ?_
            refine z_aload_n hJ d_Sx_sheet_71 0 rfl ?_
            refine z_get hJ d_Sx_sheet_72 hc_Sx f_Sx_36 0 rfl rfl (by decide) ?_
            refine z_iload_n hJ d_Sx_sheet_75 1 rfl ?_
            refine z_aald hJ d_Sx_sheet_76 31 (k) rfl rfl (by omega) (by decide) rfl ?_
            refine z_get hJ d_Sx_sheet_77 hc_Sh f_Sx_244 (32 + 2 * k) (xW_sh hk) rfl (by decide) ?_
            exact z_ri hR d_Sx_sheet_80 (by
              have hb : q_bt b = true := by simp [q_bt, c_8, c_14]
              rw [q_ssU_k]
              simp [p_sheet, hq, hcl, hb, c_37, c_50, q_beg, hcm]) (by
              have hb : q_bt b = true := by simp [q_bt, c_8, c_14]
              simp [p_sheet, hq, hcl, hb, c_37, c_50, hcm])
          · skip
            refine z_aload_n hJ d_Sx_sheet_53 0 rfl ?_
            refine z_ldc hJ d_Sx_sheet_54 c_Sx_54 ?_
            refine z_callVi hJ m_Sx_tell_0 k_Sx_55 zL.id d_Sx_sheet_56 hc_Sx 0 rfl rfl rfl (Nat.le_of_ble_eq_true rfl) ⟨by decide, by decide⟩ ?_
            exact z_ri hR d_Sx_sheet_59 (by
              have hb : q_bt b = true := by simp [q_bt, c_8, c_14]
              simp [p_sheet, hq, hb, c_37, c_50]) (by
              have hb : q_bt b = true := by simp [q_bt, c_8, c_14]
              simp [p_sheet, hq, hb, c_37, c_50])
        · skip
          refine z_aload_n hJ d_Sx_sheet_40 0 rfl ?_
          refine z_ldc hJ d_Sx_sheet_41 c_Sx_240 ?_
          refine z_callVi hJ m_Sx_tell_6 k_Sx_55 zL.id d_Sx_sheet_43 hc_Sx 0 rfl rfl rfl (Nat.le_of_ble_eq_true rfl) ⟨by decide, by decide⟩ ?_
          exact z_ri hR d_Sx_sheet_46 (by
            have hb : q_bt b = true := by simp [q_bt, c_8, c_14]
            simp [p_sheet, hq, hb, c_37]) (by
            have hb : q_bt b = true := by simp [q_bt, c_8, c_14]
            simp [p_sheet, hq, hb, c_37])
      · skip
        refine z_iload_n hJ d_Sx_sheet_17 2 rfl ?_
        refine z_bipush (v := 16) hJ d_Sx_sheet_18 (by decide) ?_
        refine z_icmp_eq hJ d_Sx_sheet_20 (fun c_20 => ?_) (fun c_20 => ?_)
        · skip
          refine z_iload_n hJ d_Sx_sheet_36 3 rfl ?_
          refine z_if_ge hJ d_Sx_sheet_37 (fun c_37 => ?_) (fun c_37 => ?_)
          · skip
            refine z_iload_n hJ d_Sx_sheet_47 3 rfl ?_
            refine z_bipush (v := 40) hJ d_Sx_sheet_48 (by decide) ?_
            refine z_icmp_le hJ d_Sx_sheet_50 (fun c_50 => ?_) (fun c_50 => ?_)
            · skip
              obtain ⟨m, hm, rfl⟩ := nI_of (x := n) (Int32.not_lt.mpr c_37)
              have hcm : (nI m).toNatClampNeg = m := nI_clamp hm
              refine z_aload_n hJ d_Sx_sheet_60 0 rfl ?_
              refine z_get hJ d_Sx_sheet_61 hc_Sx f_Sx_36 0 rfl rfl (by decide) ?_
              refine z_iload_n hJ d_Sx_sheet_64 1 rfl ?_
              refine z_aald hJ d_Sx_sheet_65 31 (k) rfl rfl (by omega) (by decide) rfl ?_
              refine z_iload_n hJ d_Sx_sheet_66 2 rfl ?_
              refine z_iload_n hJ d_Sx_sheet_67 3 rfl ?_
              refine z_callVv hJ (m_Sh_begin (b := fun j => a (32 + 2 * k + j)) (S := ss k) (n := m)) k_Sx_241 (zL_s hk) d_Sx_sheet_68 hc_Sh (32 + 2 * k) (xW_sh hk) rfl rfl (Nat.le_of_ble_eq_true rfl) ⟨by decide, by decide⟩ ?_
              refine z_aload_n hJ d_Sx_sheet_71 0 rfl ?_
              refine z_get hJ d_Sx_sheet_72 hc_Sx f_Sx_36 0 rfl rfl (by decide) ?_
              refine z_iload_n hJ d_Sx_sheet_75 1 rfl ?_
              refine z_aald hJ d_Sx_sheet_76 31 (k) rfl rfl (by omega) (by decide) rfl ?_
              refine z_get hJ d_Sx_sheet_77 hc_Sh f_Sx_244 (32 + 2 * k) (xW_sh hk) rfl (by decide) ?_
              exact z_ri hR d_Sx_sheet_80 (by
                have hb : q_bt b = true := by simp [q_bt, c_8, c_14, c_20]
                rw [q_ssU_k]
                simp [p_sheet, hq, hcl, hb, c_37, c_50, q_beg, hcm]) (by
                have hb : q_bt b = true := by simp [q_bt, c_8, c_14, c_20]
                simp [p_sheet, hq, hcl, hb, c_37, c_50, hcm])
            · skip
              refine z_aload_n hJ d_Sx_sheet_53 0 rfl ?_
              refine z_ldc hJ d_Sx_sheet_54 c_Sx_54 ?_
              refine z_callVi hJ m_Sx_tell_0 k_Sx_55 zL.id d_Sx_sheet_56 hc_Sx 0 rfl rfl rfl (Nat.le_of_ble_eq_true rfl) ⟨by decide, by decide⟩ ?_
              exact z_ri hR d_Sx_sheet_59 (by
                have hb : q_bt b = true := by simp [q_bt, c_8, c_14, c_20]
                simp [p_sheet, hq, hb, c_37, c_50]) (by
                have hb : q_bt b = true := by simp [q_bt, c_8, c_14, c_20]
                simp [p_sheet, hq, hb, c_37, c_50])
          · skip
            refine z_aload_n hJ d_Sx_sheet_40 0 rfl ?_
            refine z_ldc hJ d_Sx_sheet_41 c_Sx_240 ?_
            refine z_callVi hJ m_Sx_tell_6 k_Sx_55 zL.id d_Sx_sheet_43 hc_Sx 0 rfl rfl rfl (Nat.le_of_ble_eq_true rfl) ⟨by decide, by decide⟩ ?_
            exact z_ri hR d_Sx_sheet_46 (by
              have hb : q_bt b = true := by simp [q_bt, c_8, c_14, c_20]
              simp [p_sheet, hq, hb, c_37]) (by
              have hb : q_bt b = true := by simp [q_bt, c_8, c_14, c_20]
              simp [p_sheet, hq, hb, c_37])
        · skip
          refine z_iload_n hJ d_Sx_sheet_23 2 rfl ?_
          refine z_bipush (v := 64) hJ d_Sx_sheet_24 (by decide) ?_
          refine z_icmp_eq hJ d_Sx_sheet_26 (fun c_26 => ?_) (fun c_26 => ?_)
          · skip
            refine z_iload_n hJ d_Sx_sheet_36 3 rfl ?_
            refine z_if_ge hJ d_Sx_sheet_37 (fun c_37 => ?_) (fun c_37 => ?_)
            · skip
              refine z_iload_n hJ d_Sx_sheet_47 3 rfl ?_
              refine z_bipush (v := 40) hJ d_Sx_sheet_48 (by decide) ?_
              refine z_icmp_le hJ d_Sx_sheet_50 (fun c_50 => ?_) (fun c_50 => ?_)
              · skip
                obtain ⟨m, hm, rfl⟩ := nI_of (x := n) (Int32.not_lt.mpr c_37)
                have hcm : (nI m).toNatClampNeg = m := nI_clamp hm
                refine z_aload_n hJ d_Sx_sheet_60 0 rfl ?_
                refine z_get hJ d_Sx_sheet_61 hc_Sx f_Sx_36 0 rfl rfl (by decide) ?_
                refine z_iload_n hJ d_Sx_sheet_64 1 rfl ?_
                refine z_aald hJ d_Sx_sheet_65 31 (k) rfl rfl (by omega) (by decide) rfl ?_
                refine z_iload_n hJ d_Sx_sheet_66 2 rfl ?_
                refine z_iload_n hJ d_Sx_sheet_67 3 rfl ?_
                refine z_callVv hJ (m_Sh_begin (b := fun j => a (32 + 2 * k + j)) (S := ss k) (n := m)) k_Sx_241 (zL_s hk) d_Sx_sheet_68 hc_Sh (32 + 2 * k) (xW_sh hk) rfl rfl (Nat.le_of_ble_eq_true rfl) ⟨by decide, by decide⟩ ?_
                refine z_aload_n hJ d_Sx_sheet_71 0 rfl ?_
                refine z_get hJ d_Sx_sheet_72 hc_Sx f_Sx_36 0 rfl rfl (by decide) ?_
                refine z_iload_n hJ d_Sx_sheet_75 1 rfl ?_
                refine z_aald hJ d_Sx_sheet_76 31 (k) rfl rfl (by omega) (by decide) rfl ?_
                refine z_get hJ d_Sx_sheet_77 hc_Sh f_Sx_244 (32 + 2 * k) (xW_sh hk) rfl (by decide) ?_
                exact z_ri hR d_Sx_sheet_80 (by
                  have hb : q_bt b = true := by simp [q_bt, c_8, c_14, c_20, c_26]
                  rw [q_ssU_k]
                  simp [p_sheet, hq, hcl, hb, c_37, c_50, q_beg, hcm]) (by
                  have hb : q_bt b = true := by simp [q_bt, c_8, c_14, c_20, c_26]
                  simp [p_sheet, hq, hcl, hb, c_37, c_50, hcm])
              · skip
                refine z_aload_n hJ d_Sx_sheet_53 0 rfl ?_
                refine z_ldc hJ d_Sx_sheet_54 c_Sx_54 ?_
                refine z_callVi hJ m_Sx_tell_0 k_Sx_55 zL.id d_Sx_sheet_56 hc_Sx 0 rfl rfl rfl (Nat.le_of_ble_eq_true rfl) ⟨by decide, by decide⟩ ?_
                exact z_ri hR d_Sx_sheet_59 (by
                  have hb : q_bt b = true := by simp [q_bt, c_8, c_14, c_20, c_26]
                  simp [p_sheet, hq, hb, c_37, c_50]) (by
                  have hb : q_bt b = true := by simp [q_bt, c_8, c_14, c_20, c_26]
                  simp [p_sheet, hq, hb, c_37, c_50])
            · skip
              refine z_aload_n hJ d_Sx_sheet_40 0 rfl ?_
              refine z_ldc hJ d_Sx_sheet_41 c_Sx_240 ?_
              refine z_callVi hJ m_Sx_tell_6 k_Sx_55 zL.id d_Sx_sheet_43 hc_Sx 0 rfl rfl rfl (Nat.le_of_ble_eq_true rfl) ⟨by decide, by decide⟩ ?_
              exact z_ri hR d_Sx_sheet_46 (by
                have hb : q_bt b = true := by simp [q_bt, c_8, c_14, c_20, c_26]
                simp [p_sheet, hq, hb, c_37]) (by
                have hb : q_bt b = true := by simp [q_bt, c_8, c_14, c_20, c_26]
                simp [p_sheet, hq, hb, c_37])
          · skip
            refine z_aload_n hJ d_Sx_sheet_29 0 rfl ?_
            refine z_ldc hJ d_Sx_sheet_30 c_Sx_54 ?_
            refine z_callVi hJ m_Sx_tell_0 k_Sx_55 zL.id d_Sx_sheet_32 hc_Sx 0 rfl rfl rfl (Nat.le_of_ble_eq_true rfl) ⟨by decide, by decide⟩ ?_
            exact z_ri hR d_Sx_sheet_35 (by simp [p_sheet, hq, q_bt, c_8, c_14, c_20, c_26]) (by simp [p_sheet, hq, q_bt, c_8, c_14, c_20, c_26])
  · skip
    refine z_iload_n hJ d_Sx_sheet_0 1 rfl ?_
    refine z_callSi hJ m_Sx_isSheet k_Sx_237 zL.nil d_Sx_sheet_1 rfl rfl (Nat.le_of_ble_eq_true rfl) ⟨by decide, by decide⟩ ?_
    refine zb_eq hJ d_Sx_sheet_4 (fun c_4 => ?_) (fun c_4 => False.elim (by rw [hq] at c_4; exact absurd c_4 (by decide)))
    refine z_aload_n hJ d_Sx_sheet_29 0 rfl ?_
    refine z_ldc hJ d_Sx_sheet_30 c_Sx_54 ?_
    refine z_callVi hJ m_Sx_tell_0 k_Sx_55 zL.id d_Sx_sheet_32 hc_Sx 0 rfl rfl rfl (Nat.le_of_ble_eq_true rfl) ⟨by decide, by decide⟩ ?_
    exact z_ri hR d_Sx_sheet_35 (by simp [p_sheet, hq, c_4]; try rfl) (by simp [p_sheet, hq, c_4])
set_option maxRecDepth 100000 in
theorem m_Sx_write {g : Nat → Nat → Nat} {a : Nat → Nat} {f : Nat → Int32} {P K T : RS} {tp : TS} {ss : Nat → SS} {es : Nat → Int32} {kp : Bool} {s i : Int32} {v : Int64} (hss : ∀ k, k < 4 → (ss k).2.1 ≤ 40) : zM g y_Sx_write b_Sx_write 8 (some .long) 2 [.ref (a 0), .int s, .int i, .long v] (xW g a f P K T tp ss es kp) [.long (p_write f ss s i v).1] (xW g a (p_write f ss s i v).2.1 P K T tp (p_write f ss s i v).2.2 es kp) := by
  refine zMl (lv := [(0, .ref (a 0)), (1, .int s), (2, .int i), (3, .long v)]) (by decide) (Nat.le_of_ble_eq_true rfl) rfl (fun J hJ hR => ?_)
  rcases q_in_sh s with ⟨k, hk, rfl⟩ | hq
  · have hq := q_in_sh_t hk
    have hcl : (nI k).toNatClampNeg = k := nI_clamp (by omega)
    refine z_iload_n hJ d_Sx_write_0 1 rfl ?_
    refine z_callSi hJ m_Sx_isSheet k_Sx_237 zL.nil d_Sx_write_1 rfl rfl (Nat.le_of_ble_eq_true rfl) ⟨by decide, by decide⟩ ?_
    refine zb_ne hJ d_Sx_write_4 (fun c_4 => ?_) (fun c_4 => False.elim (by rw [hq] at c_4; exact absurd c_4 (by decide)))
    refine z_aload_n hJ d_Sx_write_15 0 rfl ?_
    refine z_get hJ d_Sx_write_16 hc_Sx f_Sx_36 0 rfl rfl (by decide) ?_
    refine z_iload_n hJ d_Sx_write_19 1 rfl ?_
    refine z_aald hJ d_Sx_write_20 31 (k) rfl rfl (by omega) (by decide) rfl ?_
    refine z_astore (lv' := [(0, _), (1, _), (2, _), (3, _), (5, _)]) hJ d_Sx_write_21 (by decide) rfl ?_
    refine z_aload hJ d_Sx_write_23 4 rfl ?_
    refine z_callVi hJ (m_Sh_isMissing (b := fun j => a (32 + 2 * k + j)) (S := ss k)) k_Sx_245 (zL_sr hk) d_Sx_write_25 hc_Sh (32 + 2 * k) (xW_sh hk) rfl rfl (Nat.le_of_ble_eq_true rfl) ⟨by decide, by decide⟩ ?_
    refine zb_eq hJ d_Sx_write_28 (fun c_28 => ?_) (fun c_28 => ?_)
    · skip
      have c0 := of_decide_eq_false c_28
      refine z_iload_n hJ d_Sx_write_39 2 rfl ?_
      refine z_iconst (v := 0) hJ d_Sx_write_40 (by decide) ?_
      refine z_aload hJ d_Sx_write_41 4 rfl ?_
      refine z_get hJ d_Sx_write_43 hc_Sh f_Sx_244 (32 + 2 * k) (xW_sh hk) rfl (by decide) ?_
      refine z_iconst (v := 1) hJ d_Sx_write_46 (by decide) ?_
      refine z_isub hJ d_Sx_write_47 ?_
      refine z_callSi hJ m_Sx_isWithin k_Sx_110 zL.nil d_Sx_write_48 rfl rfl (Nat.le_of_ble_eq_true rfl) ⟨by decide, by decide⟩ ?_
      refine zb_ne hJ d_Sx_write_51 (fun c_51 => ?_) (fun c_51 => ?_)
      · skip
        have hsk := hss k hk
        obtain ⟨m, hm, rfl⟩ := q_in_nat (Nat.le_trans hsk (by decide)) c_51
        have hcm : (nI m).toNatClampNeg = m := nI_clamp (by omega)
        refine z_aload hJ d_Sx_write_62 4 rfl ?_
        refine z_get hJ d_Sx_write_64 hc_Sh f_Sx_250 (32 + 2 * k) (xW_sh hk) rfl (by decide) ?_
        refine z_iload_n hJ d_Sx_write_67 2 rfl ?_
        refine z_lald hJ d_Sx_write_68 (33 + 2 * k) (m) (xW_sn hk) rfl (by omega) (by decide) ?_
        refine z_lstore (lv' := [(0, _), (1, _), (2, _), (3, _), (5, _), (6, _)]) hJ d_Sx_write_69 (by decide) rfl ?_
        refine z_aload hJ d_Sx_write_71 4 rfl ?_
        refine z_iload_n hJ d_Sx_write_73 2 rfl ?_
        refine z_lload_n hJ d_Sx_write_74 3 rfl ?_
        refine z_callVv hJ (m_Sh_put (b := fun j => a (32 + 2 * k + j)) (S := ss k) (i := m) (by omega)) k_Sx_254 (zL_s hk) d_Sx_write_75 hc_Sh (32 + 2 * k) (xW_sh hk) rfl rfl (Nat.le_of_ble_eq_true rfl) ⟨by decide, by decide⟩ ?_
        refine z_lload hJ d_Sx_write_78 5 rfl ?_
        exact z_rl hR d_Sx_write_80 (by simp [p_write, hq, hcl, c0, c_51, hcm]) (by simp [p_write, hq, hcl, c0, c_51, hcm])
      · skip
        refine z_aload_n hJ d_Sx_write_54 0 rfl ?_
        refine z_ldc hJ d_Sx_write_55 c_Sx_54 ?_
        refine z_callVi hJ m_Sx_tell_0 k_Sx_55 zL.id d_Sx_write_57 hc_Sx 0 rfl rfl rfl (Nat.le_of_ble_eq_true rfl) ⟨by decide, by decide⟩ ?_
        refine z_i2l hJ d_Sx_write_60 ?_
        exact z_rl hR d_Sx_write_61 (by simp [p_write, hq, hcl, c0, c_51]) (by simp [p_write, hq, hcl, c0, c_51])
    · skip
      have c0 := of_decide_eq_true c_28
      refine z_aload_n hJ d_Sx_write_31 0 rfl ?_
      refine z_ldc hJ d_Sx_write_32 c_Sx_249 ?_
      refine z_callVi hJ m_Sx_tell_5 k_Sx_55 zL.id d_Sx_write_34 hc_Sx 0 rfl rfl rfl (Nat.le_of_ble_eq_true rfl) ⟨by decide, by decide⟩ ?_
      refine z_i2l hJ d_Sx_write_37 ?_
      exact z_rl hR d_Sx_write_38 (by simp [p_write, hq, hcl, c0]) (by simp [p_write, hq, hcl, c0])
  · skip
    refine z_iload_n hJ d_Sx_write_0 1 rfl ?_
    refine z_callSi hJ m_Sx_isSheet k_Sx_237 zL.nil d_Sx_write_1 rfl rfl (Nat.le_of_ble_eq_true rfl) ⟨by decide, by decide⟩ ?_
    refine zb_ne hJ d_Sx_write_4 (fun c_4 => False.elim (by rw [hq] at c_4; exact absurd c_4 (by decide))) (fun c_4 => ?_)
    refine z_aload_n hJ d_Sx_write_7 0 rfl ?_
    refine z_ldc hJ d_Sx_write_8 c_Sx_54 ?_
    refine z_callVi hJ m_Sx_tell_0 k_Sx_55 zL.id d_Sx_write_10 hc_Sx 0 rfl rfl rfl (Nat.le_of_ble_eq_true rfl) ⟨by decide, by decide⟩ ?_
    refine z_i2l hJ d_Sx_write_13 ?_
    exact z_rl hR d_Sx_write_14 (by simp [p_write, hq, c_4]; try rfl) (by simp [p_write, hq, c_4])
set_option maxRecDepth 100000 in
theorem m_Sx_copy {g : Nat → Nat → Nat} {a : Nat → Nat} {f : Nat → Int32} {P K T : RS} {tp : TS} {ss : Nat → SS} {es : Nat → Int32} {kp : Bool} {s fr t to n : Int32} (hss : ∀ k, k < 4 → (ss k).2.1 ≤ 40) : zM g y_Sx_copy b_Sx_copy 8 (some .int) 2 [.ref (a 0), .int s, .int fr, .int t, .int to, .int n] (xW g a f P K T tp ss es kp) [.int (p_copy f ss s fr t to n).1] (xW g a (p_copy f ss s fr t to n).2.1 P K T tp (p_copy f ss s fr t to n).2.2 es kp) := by
  refine zMi (lv := [(0, .ref (a 0)), (1, .int s), (2, .int fr), (3, .int t), (4, .int to), (5, .int n)]) (by decide) (Nat.le_of_ble_eq_true rfl) rfl (fun J hJ hR => ?_)
  rcases q_in_sh2 s t with ⟨k, m, hk, hm, rfl, rfl⟩ | ⟨hq, hq2⟩ | hq
  · have hq := q_in_sh_t hk
    have hq2 := q_in_sh_t hm
    have hcl : (nI k).toNatClampNeg = k := nI_clamp (by omega)
    have hcl2 : (nI m).toNatClampNeg = m := nI_clamp (by omega)
    refine z_iload_n hJ d_Sx_copy_0 1 rfl ?_
    refine z_callSi hJ m_Sx_isSheet k_Sx_237 zL.nil d_Sx_copy_1 rfl rfl (Nat.le_of_ble_eq_true rfl) ⟨by decide, by decide⟩ ?_
    refine zb_eq hJ d_Sx_copy_4 (fun c_4 => False.elim (by rw [hq] at c_4; exact absurd c_4 (by decide))) (fun c_4 => ?_)
    refine z_iload_n hJ d_Sx_copy_7 3 rfl ?_
    refine z_callSi hJ m_Sx_isSheet k_Sx_237 zL.nil d_Sx_copy_8 rfl rfl (Nat.le_of_ble_eq_true rfl) ⟨by decide, by decide⟩ ?_
    refine zb_ne hJ d_Sx_copy_11 (fun c_11 => ?_) (fun c_11 => False.elim (by rw [hq2] at c_11; exact absurd c_11 (by decide)))
    refine z_aload_n hJ d_Sx_copy_21 0 rfl ?_
    refine z_get hJ d_Sx_copy_22 hc_Sx f_Sx_36 0 rfl rfl (by decide) ?_
    refine z_iload_n hJ d_Sx_copy_25 1 rfl ?_
    refine z_aald hJ d_Sx_copy_26 31 (k) rfl rfl (by omega) (by decide) rfl ?_
    refine z_astore (lv' := [(0, _), (1, _), (2, _), (3, _), (4, _), (5, _), (6, _)]) hJ d_Sx_copy_27 (by decide) rfl ?_
    refine z_aload_n hJ d_Sx_copy_29 0 rfl ?_
    refine z_get hJ d_Sx_copy_30 hc_Sx f_Sx_36 0 rfl rfl (by decide) ?_
    refine z_iload_n hJ d_Sx_copy_33 3 rfl ?_
    refine z_aald hJ d_Sx_copy_34 31 (m) rfl rfl (by omega) (by decide) rfl ?_
    refine z_astore (lv' := [(0, _), (1, _), (2, _), (3, _), (4, _), (5, _), (6, _), (7, _)]) hJ d_Sx_copy_35 (by decide) rfl ?_
    refine z_aload hJ d_Sx_copy_37 6 rfl ?_
    refine z_callVi hJ (m_Sh_isMissing (b := fun j => a (32 + 2 * k + j)) (S := ss k)) k_Sx_245 (zL_sr hk) d_Sx_copy_39 hc_Sh (32 + 2 * k) (xW_sh hk) rfl rfl (Nat.le_of_ble_eq_true rfl) ⟨by decide, by decide⟩ ?_
    refine zb_ne hJ d_Sx_copy_42 (fun c_42 => ?_) (fun c_42 => ?_)
    · skip
      refine z_aload_n hJ d_Sx_copy_53 0 rfl ?_
      refine z_ldc hJ d_Sx_copy_54 c_Sx_249 ?_
      refine z_callVi hJ m_Sx_tell_5 k_Sx_55 zL.id d_Sx_copy_56 hc_Sx 0 rfl rfl rfl (Nat.le_of_ble_eq_true rfl) ⟨by decide, by decide⟩ ?_
      exact z_ri hR d_Sx_copy_59 (by simp [p_copy, hq, hq2, hcl, hcl2, of_decide_eq_true c_42]) (by simp [p_copy, hq, hq2, hcl, hcl2, of_decide_eq_true c_42])
    · skip
      refine z_aload hJ d_Sx_copy_45 7 rfl ?_
      refine z_callVi hJ (m_Sh_isMissing (b := fun j => a (32 + 2 * m + j)) (S := ss m)) k_Sx_245 (zL_sr hm) d_Sx_copy_47 hc_Sh (32 + 2 * m) (xW_sh hm) rfl rfl (Nat.le_of_ble_eq_true rfl) ⟨by decide, by decide⟩ ?_
      refine zb_eq hJ d_Sx_copy_50 (fun c_50 => ?_) (fun c_50 => ?_)
      · skip
        refine z_aload hJ d_Sx_copy_60 6 rfl ?_
        refine z_get hJ d_Sx_copy_62 hc_Sh f_Sx_258 (32 + 2 * k) (xW_sh hk) rfl (by decide) ?_
        refine z_aload hJ d_Sx_copy_65 7 rfl ?_
        refine z_get hJ d_Sx_copy_67 hc_Sh f_Sx_258 (32 + 2 * m) (xW_sh hm) rfl (by decide) ?_
        refine z_icmp_eq hJ d_Sx_copy_70 (fun c_70 => ?_) (fun c_70 => ?_)
        · skip
          refine z_aload hJ d_Sx_copy_80 6 rfl ?_
          refine z_iload_n hJ d_Sx_copy_82 2 rfl ?_
          refine z_iload hJ d_Sx_copy_83 5 rfl ?_
          refine z_callVi hJ (m_Sh_holds (b := fun j => a (32 + 2 * k + j)) (S := ss k)) k_Sx_261 (zL_sr hk) d_Sx_copy_85 hc_Sh (32 + 2 * k) (xW_sh hk) rfl rfl (Nat.le_of_ble_eq_true rfl) ⟨by decide, by decide⟩ ?_
          refine zb_eq hJ d_Sx_copy_88 (fun c_88 => ?_) (fun c_88 => ?_)
          · skip
            refine z_aload_n hJ d_Sx_copy_103 0 rfl ?_
            refine z_ldc hJ d_Sx_copy_104 c_Sx_54 ?_
            refine z_callVi hJ m_Sx_tell_0 k_Sx_55 zL.id d_Sx_copy_106 hc_Sx 0 rfl rfl rfl (Nat.le_of_ble_eq_true rfl) ⟨by decide, by decide⟩ ?_
            exact z_ri hR d_Sx_copy_109 (by
              have z1 := of_decide_eq_false c_42
              have z2 := of_decide_eq_false c_50
              unfold p_copy; rw [hq, hq2, hcl, hcl2, if_pos (show (true && true) = true from rfl), if_neg (fun q => q.elim z1 z2), if_pos c_70, c_88]; try rfl) (by
              have z1 := of_decide_eq_false c_42
              have z2 := of_decide_eq_false c_50
              unfold p_copy; rw [hq, hq2, hcl, hcl2, if_pos (show (true && true) = true from rfl), if_neg (fun q => q.elim z1 z2), if_pos c_70, c_88]; try rfl)
          · skip
            refine z_aload hJ d_Sx_copy_91 7 rfl ?_
            refine z_iload hJ d_Sx_copy_93 4 rfl ?_
            refine z_iload hJ d_Sx_copy_95 5 rfl ?_
            refine z_callVi hJ (m_Sh_holds (b := fun j => a (32 + 2 * m + j)) (S := ss m)) k_Sx_261 (zL_sr hm) d_Sx_copy_97 hc_Sh (32 + 2 * m) (xW_sh hm) rfl rfl (Nat.le_of_ble_eq_true rfl) ⟨by decide, by decide⟩ ?_
            refine zb_ne hJ d_Sx_copy_100 (fun c_100 => ?_) (fun c_100 => ?_)
            · skip
              refine z_aload hJ d_Sx_copy_110 6 rfl ?_
              refine z_get hJ d_Sx_copy_112 hc_Sh f_Sx_250 (32 + 2 * k) (xW_sh hk) rfl (by decide) ?_
              refine z_iload_n hJ d_Sx_copy_115 2 rfl ?_
              refine z_aload hJ d_Sx_copy_116 7 rfl ?_
              refine z_get hJ d_Sx_copy_118 hc_Sh f_Sx_250 (32 + 2 * m) (xW_sh hm) rfl (by decide) ?_
              refine z_iload hJ d_Sx_copy_121 4 rfl ?_
              refine z_iload hJ d_Sx_copy_123 5 rfl ?_
              have hsk := q_holds_le (hss k hk) c_88
              have hsm := q_holds_le (hss m hm) c_100
              have h40 := hss k hk
              have h41 := hss m hm
              refine z_copyl (w' := xW g a f P K T tp (q_ssU ss m ((ss m).1, (ss m).2.1, va_cpy (ss k).2.2 (ss m).2.2 fr.toNatClampNeg to.toNatClampNeg n.toNatClampNeg)) es kp) hJ d_Sx_copy_125 k_Sx_264 (33 + 2 * k) (33 + 2 * m) (xW_sn hk) (xW_sn hm) hsk.1 hsm.1 hsk.2.1 (by omega) (by omega) (Nat.le_of_ble_eq_true rfl) ⟨by decide, by decide⟩ (xW_set hm _) ?_
              refine z_iload hJ d_Sx_copy_128 5 rfl ?_
              exact z_ri hR d_Sx_copy_130 (by
                have z1 := of_decide_eq_false c_42
                have z2 := of_decide_eq_false c_50
                unfold p_copy; rw [hq, hq2, hcl, hcl2, if_pos (show (true && true) = true from rfl), if_neg (fun q => q.elim z1 z2), if_pos c_70, c_88, c_100]; try rfl) (by
                have z1 := of_decide_eq_false c_42
                have z2 := of_decide_eq_false c_50
                unfold p_copy; rw [hq, hq2, hcl, hcl2, if_pos (show (true && true) = true from rfl), if_neg (fun q => q.elim z1 z2), if_pos c_70, c_88, c_100]; try rfl)
            · skip
              refine z_aload_n hJ d_Sx_copy_103 0 rfl ?_
              refine z_ldc hJ d_Sx_copy_104 c_Sx_54 ?_
              refine z_callVi hJ m_Sx_tell_0 k_Sx_55 zL.id d_Sx_copy_106 hc_Sx 0 rfl rfl rfl (Nat.le_of_ble_eq_true rfl) ⟨by decide, by decide⟩ ?_
              exact z_ri hR d_Sx_copy_109 (by
                have z1 := of_decide_eq_false c_42
                have z2 := of_decide_eq_false c_50
                unfold p_copy; rw [hq, hq2, hcl, hcl2, if_pos (show (true && true) = true from rfl), if_neg (fun q => q.elim z1 z2), if_pos c_70, c_88, c_100]; try rfl) (by
                have z1 := of_decide_eq_false c_42
                have z2 := of_decide_eq_false c_50
                unfold p_copy; rw [hq, hq2, hcl, hcl2, if_pos (show (true && true) = true from rfl), if_neg (fun q => q.elim z1 z2), if_pos c_70, c_88, c_100]; try rfl)
        · skip
          refine z_aload_n hJ d_Sx_copy_73 0 rfl ?_
          refine z_ldc hJ d_Sx_copy_74 c_Sx_117 ?_
          refine z_callVi hJ m_Sx_tell_2 k_Sx_55 zL.id d_Sx_copy_76 hc_Sx 0 rfl rfl rfl (Nat.le_of_ble_eq_true rfl) ⟨by decide, by decide⟩ ?_
          exact z_ri hR d_Sx_copy_79 (by
            have z1 := of_decide_eq_false c_42
            have z2 := of_decide_eq_false c_50
            unfold p_copy; rw [hq, hq2, hcl, hcl2]; simp only [Bool.and_self, if_true, z1, z2, or_self, if_false, c_70]; try rfl) (by
            have z1 := of_decide_eq_false c_42
            have z2 := of_decide_eq_false c_50
            unfold p_copy; rw [hq, hq2, hcl, hcl2]; simp only [Bool.and_self, if_true, z1, z2, or_self, if_false, c_70]; try rfl)
      · skip
        refine z_aload_n hJ d_Sx_copy_53 0 rfl ?_
        refine z_ldc hJ d_Sx_copy_54 c_Sx_249 ?_
        refine z_callVi hJ m_Sx_tell_5 k_Sx_55 zL.id d_Sx_copy_56 hc_Sx 0 rfl rfl rfl (Nat.le_of_ble_eq_true rfl) ⟨by decide, by decide⟩ ?_
        exact z_ri hR d_Sx_copy_59 (by simp [p_copy, hq, hq2, hcl, hcl2, of_decide_eq_true c_50]) (by simp [p_copy, hq, hq2, hcl, hcl2, of_decide_eq_true c_50])
  · have hcase := hq2
    refine z_iload_n hJ d_Sx_copy_0 1 rfl ?_
    refine z_callSi hJ m_Sx_isSheet k_Sx_237 zL.nil d_Sx_copy_1 rfl rfl (Nat.le_of_ble_eq_true rfl) ⟨by decide, by decide⟩ ?_
    refine zb_eq hJ d_Sx_copy_4 (fun c_4 => False.elim (by rw [hq] at c_4; exact absurd c_4 (by decide))) (fun c_4 => ?_)
    refine z_iload_n hJ d_Sx_copy_7 3 rfl ?_
    refine z_callSi hJ m_Sx_isSheet k_Sx_237 zL.nil d_Sx_copy_8 rfl rfl (Nat.le_of_ble_eq_true rfl) ⟨by decide, by decide⟩ ?_
    refine zb_ne hJ d_Sx_copy_11 (fun c_11 => False.elim (by rw [hq2] at c_11; exact absurd c_11 (by decide))) (fun c_11 => ?_)
    refine z_aload_n hJ d_Sx_copy_14 0 rfl ?_
    refine z_ldc hJ d_Sx_copy_15 c_Sx_54 ?_
    refine z_callVi hJ m_Sx_tell_0 k_Sx_55 zL.id d_Sx_copy_17 hc_Sx 0 rfl rfl rfl (Nat.le_of_ble_eq_true rfl) ⟨by decide, by decide⟩ ?_
    exact z_ri hR d_Sx_copy_20 (by simp [p_copy, hq, hq2, c_4, c_11]; try rfl) (by simp [p_copy, hq, hq2, c_4, c_11])
  · skip
    refine z_iload_n hJ d_Sx_copy_0 1 rfl ?_
    refine z_callSi hJ m_Sx_isSheet k_Sx_237 zL.nil d_Sx_copy_1 rfl rfl (Nat.le_of_ble_eq_true rfl) ⟨by decide, by decide⟩ ?_
    refine zb_eq hJ d_Sx_copy_4 (fun c_4 => ?_) (fun c_4 => False.elim (by rw [hq] at c_4; exact absurd c_4 (by decide)))
    refine z_aload_n hJ d_Sx_copy_14 0 rfl ?_
    refine z_ldc hJ d_Sx_copy_15 c_Sx_54 ?_
    refine z_callVi hJ m_Sx_tell_0 k_Sx_55 zL.id d_Sx_copy_17 hc_Sx 0 rfl rfl rfl (Nat.le_of_ble_eq_true rfl) ⟨by decide, by decide⟩ ?_
    exact z_ri hR d_Sx_copy_20 (by simp [p_copy, hq, c_4]; try rfl) (by simp [p_copy, hq, c_4])
set_option maxRecDepth 100000 in
theorem m_Sx_lays {g : Nat → Nat → Nat} {a : Nat → Nat} {f : Nat → Int32} {P K T : RS} {tp : TS} {ss : Nat → SS} {es : Nat → Int32} {kp : Bool} {s : Int32} (hP : zPi P) (hss : ∀ k, k < 4 → (ss k).2.1 ≤ 40) : zM g y_Sx_lays b_Sx_lays 7 (some .int) 2 [.ref (a 0), .int s] (xW g a f P K T tp ss es kp) [.int (p_lays f P ss s).1] (xW g a (p_lays f P ss s).2.1 (p_lays f P ss s).2.2 K T tp ss es kp) := by
  refine zMi (lv := [(0, .ref (a 0)), (1, .int s)]) (by decide) (Nat.le_of_ble_eq_true rfl) rfl (fun J hJ hR => ?_)
  rcases q_in_sh s with ⟨k, hk, rfl⟩ | hq
  · have hq := q_in_sh_t hk
    have hcl : (nI k).toNatClampNeg = k := nI_clamp (by omega)
    have hj7 := hP.1
    have hj8 := hP.2.1
    have haw := q_awk_31 hP.1
    have has : P.2.2.2.1 < 2 ^ 31 := Nat.lt_trans hP.2.2 (by decide)
    have hsk := hss k hk
    refine z_iload_n hJ d_Sx_lays_0 1 rfl ?_
    refine z_callSi hJ m_Sx_isSheet k_Sx_237 zL.nil d_Sx_lays_1 rfl rfl (Nat.le_of_ble_eq_true rfl) ⟨by decide, by decide⟩ ?_
    refine zb_ne hJ d_Sx_lays_4 (fun c_4 => ?_) (fun c_4 => False.elim (by rw [hq] at c_4; exact absurd c_4 (by decide)))
    refine z_aload_n hJ d_Sx_lays_14 0 rfl ?_
    refine z_get hJ d_Sx_lays_15 hc_Sx f_Sx_36 0 rfl rfl (by decide) ?_
    refine z_iload_n hJ d_Sx_lays_18 1 rfl ?_
    refine z_aald hJ d_Sx_lays_19 31 (k) rfl rfl (by omega) (by decide) rfl ?_
    refine z_astore_n (lv' := [(0, _), (1, _), (2, _)]) hJ d_Sx_lays_20 (by decide) rfl ?_
    refine z_aload_n hJ d_Sx_lays_21 2 rfl ?_
    refine z_callVi hJ (m_Sh_isMissing (b := fun j => a (32 + 2 * k + j)) (S := ss k)) k_Sx_245 (zL_sr hk) d_Sx_lays_22 hc_Sh (32 + 2 * k) (xW_sh hk) rfl rfl (Nat.le_of_ble_eq_true rfl) ⟨by decide, by decide⟩ ?_
    refine zb_eq hJ d_Sx_lays_25 (fun c_25 => ?_) (fun c_25 => ?_)
    · skip
      have c0 := of_decide_eq_false c_25
      refine z_iconst (v := 0) hJ d_Sx_lays_35 (by decide) ?_
      refine z_istore_n (lv' := [(0, _), (1, _), (2, _), (3, _)]) hJ d_Sx_lays_36 (by decide) rfl ?_
      refine z_iconst (v := 0) hJ d_Sx_lays_37 (by decide) ?_
      refine z_istore (lv' := [(0, _), (1, _), (2, _), (3, _), (4, _)]) hJ d_Sx_lays_38 (by decide) rfl ?_
      have L40 : ∀ j : Nat, j ≤ (min (ss k).2.1 P.2.1) → J (xW g a f (P.1, P.2.1, P.2.2.1, P.2.2.2.1, P.2.2.2.2.1, P.2.2.2.2.2.1, (q_lay (ss k).2.2 (rg P) j).2, P.2.2.2.2.2.2.2.1, P.2.2.2.2.2.2.2.2.1, P.2.2.2.2.2.2.2.2.2.1, P.2.2.2.2.2.2.2.2.2.2.1, P.2.2.2.2.2.2.2.2.2.2.2) K T tp ss es kp) 40 [(0, .ref (a 0)), (1, .int (nI k)), (2, .ref (a (32 + 2 * k))), (3, .int (nI (q_lay (ss k).2.2 (rg P) j).1)), (4, .int (nI j))] [] := by
        refine zloop ((min (ss k).2.1 P.2.1)) (fun j hjN ih => ?_)
        refine z_iload hJ d_Sx_lays_40 4 rfl ?_
        refine z_aload_n hJ d_Sx_lays_42 2 rfl ?_
        refine z_get hJ d_Sx_lays_43 hc_Sh f_Sx_244 (32 + 2 * k) (xW_sh hk) rfl (by decide) ?_
        refine z_aload_n hJ d_Sx_lays_46 0 rfl ?_
        refine z_get hJ d_Sx_lays_47 hc_Sx f_Sx_16 0 rfl rfl (by decide) ?_
        refine z_get hJ d_Sx_lays_50 hc_Rd f_Sx_59 2 rfl rfl (by decide) ?_
        refine z_mmin hJ d_Sx_lays_53 k_Sx_202 (Nat.le_of_ble_eq_true rfl) ⟨by decide, by decide⟩ ?_
        refine z_c (y := q_min _ _) rfl ?_
        refine z_c (zmin (n := (ss k).2.1) (m := P.2.1) (by omega) (by omega)) ?_
        refine z_icmp_ge hJ d_Sx_lays_56 (fun c_56 => ?_) (fun c_56 => ?_)
        · skip
          try dsimp only at c_56
          have h_56 : (min (ss k).2.1 P.2.1) ≤ j := by
            have e := nI_leI (a := (min (ss k).2.1 P.2.1)) (b := j) (by omega) (by omega)
            exact e.mp c_56
          obtain rfl : j = (min (ss k).2.1 P.2.1) := by omega
          refine z_iload_n hJ d_Sx_lays_106 3 rfl ?_
          exact z_ri hR d_Sx_lays_107 (by simp [p_lays, hq, hcl, c0, q_gls]) (by simp [p_lays, hq, hcl, c0, q_gls])
        · skip
          try dsimp only at c_56
          have h_56 : ¬ ((min (ss k).2.1 P.2.1) ≤ j) := by
            have e := nI_leI (a := (min (ss k).2.1 P.2.1)) (b := j) (by omega) (by omega)
            exact fun q => c_56 (e.mpr q)
          refine z_aload_n hJ d_Sx_lays_59 2 rfl ?_
          refine z_get hJ d_Sx_lays_60 hc_Sh f_Sx_250 (32 + 2 * k) (xW_sh hk) rfl (by decide) ?_
          refine z_iload hJ d_Sx_lays_63 4 rfl ?_
          refine z_lald hJ d_Sx_lays_65 (33 + 2 * k) (j) (xW_sn hk) rfl (by omega) (by decide) ?_
          refine z_lstore (lv' := [(0, _), (1, _), (2, _), (3, _), (4, _), (5, _)]) hJ d_Sx_lays_66 (by decide) rfl ?_
          refine z_lload hJ d_Sx_lays_68 5 rfl ?_
          refine z_lconst (v := 0) hJ d_Sx_lays_70 (by decide) ?_
          refine z_lcmp hJ d_Sx_lays_71 ?_
          refine z_if_lt hJ d_Sx_lays_72 (fun c_72 => ?_) (fun c_72 => ?_)
          · skip
            try dsimp only at c_72
            refine z_iinc (v := nI (j + 1)) (lv' := [(0, _), (1, _), (2, _), (3, _), (4, _), (5, _)]) hJ d_Sx_lays_100 4 rfl (zinc _) (by decide) rfl ?_
            refine z_goto hJ d_Sx_lays_103 ?_
            refine z_drop hJ [0, 1, 2, 3, 4] rfl ?_
            have e := ih (by omega)
            rw [q_lay_f (by simp [q_ok, c_4, c_25, c_56, c_72])] at e
            exact e
          · skip
            try dsimp only at c_72
            refine z_lload hJ d_Sx_lays_75 5 rfl ?_
            refine z_ldc2 hJ d_Sx_lays_77 c_Sx_270 ?_
            refine z_lcmp hJ d_Sx_lays_80 ?_
            refine z_if_gt hJ d_Sx_lays_81 (fun c_81 => ?_) (fun c_81 => ?_)
            · skip
              try dsimp only at c_81
              refine z_iinc (v := nI (j + 1)) (lv' := [(0, _), (1, _), (2, _), (3, _), (4, _), (5, _)]) hJ d_Sx_lays_100 4 rfl (zinc _) (by decide) rfl ?_
              refine z_goto hJ d_Sx_lays_103 ?_
              refine z_drop hJ [0, 1, 2, 3, 4] rfl ?_
              have e := ih (by omega)
              rw [q_lay_f (by simp [q_ok, c_4, c_25, c_56, c_72, c_81])] at e
              exact e
            · skip
              try dsimp only at c_81
              refine z_aload_n hJ d_Sx_lays_84 0 rfl ?_
              refine z_get hJ d_Sx_lays_85 hc_Sx f_Sx_16 0 rfl rfl (by decide) ?_
              refine z_get hJ d_Sx_lays_88 hc_Rd f_Sx_77 2 rfl rfl (by decide) ?_
              refine z_iload hJ d_Sx_lays_91 4 rfl ?_
              refine z_lload hJ d_Sx_lays_93 5 rfl ?_
              refine z_l2i hJ d_Sx_lays_95 ?_
              refine z_iast (w' := xW g a f (P.1, P.2.1, P.2.2.1, P.2.2.2.1, P.2.2.2.2.1, P.2.2.2.2.2.1, upd ((q_lay (ss k).2.2 (rg P) j).2) (j) ((ss k).2.2 j).toInt32, P.2.2.2.2.2.2.2.1, P.2.2.2.2.2.2.2.2.1, P.2.2.2.2.2.2.2.2.2.1, P.2.2.2.2.2.2.2.2.2.2.1, P.2.2.2.2.2.2.2.2.2.2.2) K T tp ss es kp) hJ d_Sx_lays_96 5 (j) rfl rfl (by omega) (by decide) rfl ?_
              refine z_iinc (v := nI ((q_lay (ss k).2.2 (rg P) j).1 + 1)) (lv' := [(0, _), (1, _), (2, _), (3, _), (4, _), (5, _)]) hJ d_Sx_lays_97 3 rfl (zinc _) (by decide) rfl ?_
              refine z_iinc (v := nI (j + 1)) (lv' := [(0, _), (1, _), (2, _), (3, _), (4, _), (5, _)]) hJ d_Sx_lays_100 4 rfl (zinc _) (by decide) rfl ?_
              refine z_goto hJ d_Sx_lays_103 ?_
              refine z_drop hJ [0, 1, 2, 3, 4] rfl ?_
              have e := ih (by omega)
              rw [q_lay_t (by simp [q_ok, c_72, c_81])] at e
              exact e
      exact L40 0 (Nat.zero_le _)
    · skip
      have c0 := of_decide_eq_true c_25
      refine z_aload_n hJ d_Sx_lays_28 0 rfl ?_
      refine z_ldc hJ d_Sx_lays_29 c_Sx_249 ?_
      refine z_callVi hJ m_Sx_tell_5 k_Sx_55 zL.id d_Sx_lays_31 hc_Sx 0 rfl rfl rfl (Nat.le_of_ble_eq_true rfl) ⟨by decide, by decide⟩ ?_
      exact z_ri hR d_Sx_lays_34 (by simp [p_lays, hq, hcl, c0]) (by simp [p_lays, hq, hcl, c0])
  · skip
    refine z_iload_n hJ d_Sx_lays_0 1 rfl ?_
    refine z_callSi hJ m_Sx_isSheet k_Sx_237 zL.nil d_Sx_lays_1 rfl rfl (Nat.le_of_ble_eq_true rfl) ⟨by decide, by decide⟩ ?_
    refine zb_ne hJ d_Sx_lays_4 (fun c_4 => False.elim (by rw [hq] at c_4; exact absurd c_4 (by decide))) (fun c_4 => ?_)
    refine z_aload_n hJ d_Sx_lays_7 0 rfl ?_
    refine z_ldc hJ d_Sx_lays_8 c_Sx_54 ?_
    refine z_callVi hJ m_Sx_tell_0 k_Sx_55 zL.id d_Sx_lays_10 hc_Sx 0 rfl rfl rfl (Nat.le_of_ble_eq_true rfl) ⟨by decide, by decide⟩ ?_
    exact z_ri hR d_Sx_lays_13 (by simp [p_lays, hq, c_4]; try rfl) (by simp [p_lays, hq, c_4])
set_option maxRecDepth 100000 in
theorem m_Sx_book {g : Nat → Nat → Nat} {a : Nat → Nat} {f : Nat → Int32} {P K T : RS} {tp : TS} {ss : Nat → SS} {es : Nat → Int32} {kp : Bool} {s : Int32} (hP : zPi P) (hss : ∀ k, k < 4 → (ss k).2.1 ≤ 40) : zM g y_Sx_book b_Sx_book 4 (some .int) 5 [.ref (a 0), .int s] (xW g a f P K T tp ss es kp) [.int (p_book f P T ss s).1] (xW g a (p_book f P T ss s).2.1 P K (p_book f P T ss s).2.2.1 tp (p_book f P T ss s).2.2.2 es kp) := by
  refine zMi (lv := [(0, .ref (a 0)), (1, .int s)]) (by decide) (Nat.le_of_ble_eq_true rfl) rfl (fun J hJ hR => ?_)
  rcases q_in_sh s with ⟨k, hk, rfl⟩ | hq
  · have hq := q_in_sh_t hk
    have hcl : (nI k).toNatClampNeg = k := nI_clamp (by omega)
    have hj7 := hP.1
    have hj8 := hP.2.1
    have haw := q_awk_31 hP.1
    have has : P.2.2.2.1 < 2 ^ 31 := Nat.lt_trans hP.2.2 (by decide)
    have hsk := hss k hk
    refine z_iload_n hJ d_Sx_book_0 1 rfl ?_
    refine z_callSi hJ m_Sx_isSheet k_Sx_237 zL.nil d_Sx_book_1 rfl rfl (Nat.le_of_ble_eq_true rfl) ⟨by decide, by decide⟩ ?_
    refine zb_ne hJ d_Sx_book_4 (fun c_4 => ?_) (fun c_4 => False.elim (by rw [hq] at c_4; exact absurd c_4 (by decide)))
    refine z_aload_n hJ d_Sx_book_14 0 rfl ?_
    refine z_get hJ d_Sx_book_15 hc_Sx f_Sx_36 0 rfl rfl (by decide) ?_
    refine z_iload_n hJ d_Sx_book_18 1 rfl ?_
    refine z_aald hJ d_Sx_book_19 31 (k) rfl rfl (by omega) (by decide) rfl ?_
    refine z_astore_n (lv' := [(0, _), (1, _), (2, _)]) hJ d_Sx_book_20 (by decide) rfl ?_
    refine z_aload_n hJ d_Sx_book_21 2 rfl ?_
    refine z_callVi hJ (m_Sh_isMissing (b := fun j => a (32 + 2 * k + j)) (S := ss k)) k_Sx_245 (zL_sr hk) d_Sx_book_22 hc_Sh (32 + 2 * k) (xW_sh hk) rfl rfl (Nat.le_of_ble_eq_true rfl) ⟨by decide, by decide⟩ ?_
    refine zb_eq hJ d_Sx_book_25 (fun c_25 => ?_) (fun c_25 => ?_)
    · skip
      have c0 := of_decide_eq_false c_25
      refine z_aload_n hJ d_Sx_book_35 0 rfl ?_
      refine z_get hJ d_Sx_book_36 hc_Sx f_Sx_23 0 rfl rfl (by decide) ?_
      refine z_aload_n hJ d_Sx_book_39 0 rfl ?_
      refine z_get hJ d_Sx_book_40 hc_Sx f_Sx_16 0 rfl rfl (by decide) ?_
      refine z_callVv hJ m_Rd_become k_Sx_182 zL_TP d_Sx_book_43 hc_Rd 20 rfl rfl rfl (Nat.le_of_ble_eq_true rfl) ⟨by decide, by decide⟩ ?_
      refine z_iconst (v := 0) hJ d_Sx_book_46 (by decide) ?_
      refine z_istore_n (lv' := [(0, _), (1, _), (2, _), (3, _)]) hJ d_Sx_book_47 (by decide) rfl ?_
      have L48 : ∀ j : Nat, j ≤ (ss k).2.1 → J (xW g a f P K (q_it P j) tp ((q_ssU ss k ((ss k).1, (ss k).2.1, q_bk P (ss k) (j)))) es kp) 48 [(0, .ref (a 0)), (1, .int (nI k)), (2, .ref (a (32 + 2 * k))), (3, .int (nI j))] [] := by
        refine zloop ((ss k).2.1) (fun j hjN ih => ?_)
        have hi := q_it_pi hP j
        refine z_iload_n hJ d_Sx_book_48 3 rfl ?_
        refine z_aload_n hJ d_Sx_book_49 2 rfl ?_
        refine z_get hJ d_Sx_book_50 hc_Sh f_Sx_244 (32 + 2 * k) (xW_sh hk) rfl (by decide) ?_
        refine z_c (y := nI (ss k).2.1) (by rw [q_ssU_k]) ?_
        refine z_icmp_ge hJ d_Sx_book_53 (fun c_53 => ?_) (fun c_53 => ?_)
        · skip
          have h_53 : (ss k).2.1 ≤ j := by
            have e := nI_leI (a := (ss k).2.1) (b := j) (by omega) (by omega)
            exact e.mp c_53
          obtain rfl : j = (ss k).2.1 := by omega
          refine z_aload_n hJ d_Sx_book_90 2 rfl ?_
          refine z_get hJ d_Sx_book_91 hc_Sh f_Sx_244 (32 + 2 * k) (xW_sh hk) rfl (by decide) ?_
          refine z_c (y := nI (ss k).2.1) (by rw [q_ssU_k]) ?_
          exact z_ri hR d_Sx_book_94 (by simp [p_book, hq, hcl, c0]) (by simp [p_book, hq, hcl, c0])
        · skip
          have h_53 : ¬ ((ss k).2.1 ≤ j) := by
            have e := nI_leI (a := (ss k).2.1) (b := j) (by omega) (by omega)
            exact fun q => c_53 (e.mpr q)
          refine z_aload_n hJ d_Sx_book_56 2 rfl ?_
          refine z_iload_n hJ d_Sx_book_57 3 rfl ?_
          refine z_aload_n hJ d_Sx_book_58 0 rfl ?_
          refine z_get hJ d_Sx_book_59 hc_Sx f_Sx_23 0 rfl rfl (by decide) ?_
          refine z_aload_n hJ d_Sx_book_62 0 rfl ?_
          refine z_get hJ d_Sx_book_63 hc_Sx f_Sx_23 0 rfl rfl (by decide) ?_
          refine z_callVi hJ (m_Rd_awakeSet (P := q_it P j) hi.1) k_Sx_90 zL_T d_Sx_book_66 hc_Rd 20 rfl rfl rfl (Nat.le_of_ble_eq_true rfl) ⟨by decide, by decide⟩ ?_
          refine z_callVi hJ (m_Rd_earned (P := q_it P j) hi.1 hi.2.1 (q_awk_31 hi.1)) k_Sx_173 zL_T d_Sx_book_69 hc_Rd 20 rfl rfl rfl (Nat.le_of_ble_eq_true rfl) ⟨by decide, by decide⟩ ?_
          refine z_i2l hJ d_Sx_book_72 ?_
          refine z_callVv hJ (m_Sh_put (b := fun j => a (32 + 2 * k + j)) (S := (q_ssU ss k ((ss k).1, (ss k).2.1, q_bk P (ss k) (j))) k) (i := j) (by omega)) k_Sx_254 (zL_s hk) d_Sx_book_73 hc_Sh (32 + 2 * k) (xW_sh hk) rfl rfl (Nat.le_of_ble_eq_true rfl) ⟨by decide, by decide⟩ ?_
          refine z_w (w' := xW g a f P K (q_it P j) tp (q_ssU ss k ((ss k).1, (ss k).2.1, q_bk P (ss k) (j + 1))) es kp) (by rw [q_ssU_2, q_ssU_k]; rfl) ?_
          refine z_aload_n hJ d_Sx_book_76 0 rfl ?_
          refine z_get hJ d_Sx_book_77 hc_Sx f_Sx_23 0 rfl rfl (by decide) ?_
          refine z_iconst (v := 1) hJ d_Sx_book_80 (by decide) ?_
          refine z_callVv hJ (m_Rd_letHoursGo (P := q_it P j) hi.1 (Nat.lt_trans hi.2.2 (by decide))) k_Sx_170 zL_T d_Sx_book_81 hc_Rd 20 rfl rfl rfl (Nat.le_of_ble_eq_true rfl) ⟨by decide, by decide⟩ ?_
          refine z_iinc (v := nI (j + 1)) (lv' := [(0, _), (1, _), (2, _), (3, _)]) hJ d_Sx_book_84 3 rfl (zinc _) (by decide) rfl ?_
          refine z_goto hJ d_Sx_book_87 ?_
          exact ih (by omega)
      have e := L48 0 (Nat.zero_le _)
      rw [show q_bk P (ss k) 0 = (ss k).2.2 from rfl, q_ssU_id] at e
      exact e
    · skip
      have c0 := of_decide_eq_true c_25
      refine z_aload_n hJ d_Sx_book_28 0 rfl ?_
      refine z_ldc hJ d_Sx_book_29 c_Sx_249 ?_
      refine z_callVi hJ m_Sx_tell_5 k_Sx_55 zL.id d_Sx_book_31 hc_Sx 0 rfl rfl rfl (Nat.le_of_ble_eq_true rfl) ⟨by decide, by decide⟩ ?_
      exact z_ri hR d_Sx_book_34 (by simp [p_book, hq, hcl, c0]) (by simp [p_book, hq, hcl, c0])
  · skip
    refine z_iload_n hJ d_Sx_book_0 1 rfl ?_
    refine z_callSi hJ m_Sx_isSheet k_Sx_237 zL.nil d_Sx_book_1 rfl rfl (Nat.le_of_ble_eq_true rfl) ⟨by decide, by decide⟩ ?_
    refine zb_ne hJ d_Sx_book_4 (fun c_4 => False.elim (by rw [hq] at c_4; exact absurd c_4 (by decide))) (fun c_4 => ?_)
    refine z_aload_n hJ d_Sx_book_7 0 rfl ?_
    refine z_ldc hJ d_Sx_book_8 c_Sx_54 ?_
    refine z_callVi hJ m_Sx_tell_0 k_Sx_55 zL.id d_Sx_book_10 hc_Sx 0 rfl rfl rfl (Nat.le_of_ble_eq_true rfl) ⟨by decide, by decide⟩ ?_
    exact z_ri hR d_Sx_book_13 (by simp [p_book, hq, c_4]; try rfl) (by simp [p_book, hq, c_4])
set_option maxRecDepth 100000 in
theorem m_Sx_read {g : Nat → Nat → Nat} {a : Nat → Nat} {f : Nat → Int32} {P K T : RS} {tp : TS} {ss : Nat → SS} {es : Nat → Int32} {kp : Bool} {s : Int32} (hP : zPi P) (hss : ∀ k, k < 4 → (ss k).2.1 ≤ 40) : zM g y_Sx_read b_Sx_read 8 (some .int) 4 [.ref (a 0), .int s] (xW g a f P K T tp ss es kp) [.int (p_read f P ss s).1] (xW g a (p_read f P ss s).2 P K T tp ss es kp) := by
  refine zMi (lv := [(0, .ref (a 0)), (1, .int s)]) (by decide) (Nat.le_of_ble_eq_true rfl) rfl (fun J hJ hR => ?_)
  rcases q_in_sh s with ⟨k, hk, rfl⟩ | hq
  · have hq := q_in_sh_t hk
    have hcl : (nI k).toNatClampNeg = k := nI_clamp (by omega)
    have hj7 := hP.1
    have hj8 := hP.2.1
    have haw := q_awk_31 hP.1
    have has : P.2.2.2.1 < 2 ^ 31 := Nat.lt_trans hP.2.2 (by decide)
    have hsk := hss k hk
    refine z_iload_n hJ d_Sx_read_0 1 rfl ?_
    refine z_callSi hJ m_Sx_isSheet k_Sx_237 zL.nil d_Sx_read_1 rfl rfl (Nat.le_of_ble_eq_true rfl) ⟨by decide, by decide⟩ ?_
    refine zb_ne hJ d_Sx_read_4 (fun c_4 => ?_) (fun c_4 => False.elim (by rw [hq] at c_4; exact absurd c_4 (by decide)))
    refine z_aload_n hJ d_Sx_read_14 0 rfl ?_
    refine z_get hJ d_Sx_read_15 hc_Sx f_Sx_36 0 rfl rfl (by decide) ?_
    refine z_iload_n hJ d_Sx_read_18 1 rfl ?_
    refine z_aald hJ d_Sx_read_19 31 (k) rfl rfl (by omega) (by decide) rfl ?_
    refine z_astore_n (lv' := [(0, _), (1, _), (2, _)]) hJ d_Sx_read_20 (by decide) rfl ?_
    refine z_aload_n hJ d_Sx_read_21 2 rfl ?_
    refine z_callVi hJ (m_Sh_isMissing (b := fun j => a (32 + 2 * k + j)) (S := ss k)) k_Sx_245 (zL_sr hk) d_Sx_read_22 hc_Sh (32 + 2 * k) (xW_sh hk) rfl rfl (Nat.le_of_ble_eq_true rfl) ⟨by decide, by decide⟩ ?_
    refine zb_eq hJ d_Sx_read_25 (fun c_25 => ?_) (fun c_25 => ?_)
    · skip
      have c0 := of_decide_eq_false c_25
      refine z_iconst (v := 1) hJ d_Sx_read_35 (by decide) ?_
      refine z_aload_n hJ d_Sx_read_36 2 rfl ?_
      refine z_get hJ d_Sx_read_37 hc_Sh f_Sx_244 (32 + 2 * k) (xW_sh hk) rfl (by decide) ?_
      refine z_aload_n hJ d_Sx_read_40 0 rfl ?_
      refine z_get hJ d_Sx_read_41 hc_Sx f_Sx_16 0 rfl rfl (by decide) ?_
      refine z_get hJ d_Sx_read_44 hc_Rd f_Sx_125 2 rfl rfl (by decide) ?_
      refine z_mmin hJ d_Sx_read_47 k_Sx_202 (Nat.le_of_ble_eq_true rfl) ⟨by decide, by decide⟩ ?_
      refine z_c (y := q_min _ _) rfl ?_
      refine z_c (zmin (by omega) (by omega)) ?_
      refine z_ishl hJ d_Sx_read_50 ?_
      refine z_iconst (v := 1) hJ d_Sx_read_51 (by decide) ?_
      refine z_isub hJ d_Sx_read_52 ?_
      refine z_c (y := nI (q_told P (ss k))) (by rw [zshl1 (by omega), zsub1 (Nat.two_pow_pos _)]; rfl) ?_
      refine z_istore_n (lv' := [(0, _), (1, _), (2, _), (3, _)]) hJ d_Sx_read_53 (by decide) rfl ?_
      refine z_aload_n hJ d_Sx_read_54 2 rfl ?_
      refine z_callVi hJ (m_Sh_otherThanZero (b := fun j => a (32 + 2 * k + j)) (S := ss k) hsk) k_Sx_272 (zL_sr hk) d_Sx_read_55 hc_Sh (32 + 2 * k) (xW_sh hk) rfl rfl (Nat.le_of_ble_eq_true rfl) ⟨by decide, by decide⟩ ?_
      refine z_iload_n hJ d_Sx_read_58 3 rfl ?_
      refine z_iand hJ d_Sx_read_59 ?_
      refine z_c (y := nI (q_nz (ss k) &&& (q_told P (ss k)))) (zand _ _) ?_
      have htl := q_told_lt (S := ss k) hP.2.1
      have hnl : q_nz (ss k) &&& (q_told P (ss k)) ≤ (q_told P (ss k)) := Nat.and_le_right
      have hall := q_all_127 hP.1
      have ha1 := q_all1 P
      refine z_istore (lv' := [(0, _), (1, _), (2, _), (3, _), (4, _)]) hJ d_Sx_read_60 (by decide) rfl ?_
      refine z_aload_n hJ d_Sx_read_62 0 rfl ?_
      refine z_get hJ d_Sx_read_63 hc_Sx f_Sx_16 0 rfl rfl (by decide) ?_
      refine z_callVi hJ (m_Rd_allSet hP.1) k_Sx_214 zL_P d_Sx_read_66 hc_Rd 2 rfl rfl rfl (Nat.le_of_ble_eq_true rfl) ⟨by decide, by decide⟩ ?_
      refine z_istore (lv' := [(0, _), (1, _), (2, _), (3, _), (4, _), (5, _)]) hJ d_Sx_read_69 (by decide) rfl ?_
      refine z_iconst (v := 0) hJ d_Sx_read_71 (by decide) ?_
      refine z_istore (lv' := [(0, _), (1, _), (2, _), (3, _), (4, _), (5, _), (6, _)]) hJ d_Sx_read_72 (by decide) rfl ?_
      refine z_iconst (v := 0) hJ d_Sx_read_74 (by decide) ?_
      refine z_istore (lv' := [(0, _), (1, _), (2, _), (3, _), (4, _), (5, _), (6, _), (7, _)]) hJ d_Sx_read_75 (by decide) rfl ?_
      have L77 : ∀ j : Nat, j ≤ q_all P + 1 → J (xW g a f P K T tp ss es kp) 77 [(0, .ref (a 0)), (1, .int (nI k)), (2, .ref (a (32 + 2 * k))), (3, .int (nI (q_told P (ss k)))), (4, .int (nI (q_nz (ss k) &&& (q_told P (ss k))))), (5, .int (nI (q_all P))), (6, .int (nI (q_cnt (q_so P (ss k)) j))), (7, .int (nI j))] [] := by
        refine zloop (q_all P + 1) (fun j hjN ih => ?_)
        refine z_iload hJ d_Sx_read_77 7 rfl ?_
        refine z_iload hJ d_Sx_read_79 5 rfl ?_
        refine z_icmp_gt hJ d_Sx_read_81 (fun c_81 => ?_) (fun c_81 => ?_)
        · skip
          have h_81 : (q_all P) < j := by
            have e := nI_ltI (a := (q_all P)) (b := j) (by omega) (by omega)
            exact e.mp c_81
          obtain rfl : j = q_all P + 1 := by omega
          refine z_iload hJ d_Sx_read_114 6 rfl ?_
          exact z_ri hR d_Sx_read_116 (by simp [p_read, hq, hcl, c0, ← ha1]) (by simp [p_read, hq, hcl, c0])
        · skip
          have h_81 : ¬ ((q_all P) < j) := by
            have e := nI_ltI (a := (q_all P)) (b := j) (by omega) (by omega)
            exact fun q => c_81 (e.mpr q)
          refine z_aload_n hJ d_Sx_read_84 0 rfl ?_
          refine z_get hJ d_Sx_read_85 hc_Sx f_Sx_16 0 rfl rfl (by decide) ?_
          refine z_iload hJ d_Sx_read_88 5 rfl ?_
          refine z_iload hJ d_Sx_read_90 7 rfl ?_
          refine z_iconst (v := (-1)) hJ d_Sx_read_92 (by decide) ?_
          refine z_ixor hJ d_Sx_read_93 ?_
          refine z_iand hJ d_Sx_read_94 ?_
          refine z_c (y := nI (q_all P &&& q_not j)) (by rw [znot, zand]) ?_
          refine z_callVi hJ (m_Rd_metSet (aw := q_all P &&& q_not j) hP.1 hP.2.1 (q_and_31 (q_all_31 (by omega)))) k_Sx_176 zL_P d_Sx_read_95 hc_Rd 2 rfl rfl rfl (Nat.le_of_ble_eq_true rfl) ⟨by decide, by decide⟩ ?_
          refine z_iload_n hJ d_Sx_read_98 3 rfl ?_
          refine z_iand hJ d_Sx_read_99 ?_
          have hml : q_metS P (q_all P &&& q_not j) &&& (q_told P (ss k)) ≤ (q_told P (ss k)) := Nat.and_le_right
          refine z_c (y := nI (q_metS P (q_all P &&& q_not j) &&& (q_told P (ss k)))) (zand _ _) ?_
          refine z_iload hJ d_Sx_read_100 4 rfl ?_
          refine z_icmp_ne hJ d_Sx_read_102 (fun c_102 => ?_) (fun c_102 => ?_)
          · skip
            have h_102 : ¬ ((q_metS P (q_all P &&& q_not j) &&& (q_told P (ss k))) = (q_nz (ss k) &&& (q_told P (ss k)))) := by
              have e := nI_eq (a := (q_metS P (q_all P &&& q_not j) &&& (q_told P (ss k)))) (b := (q_nz (ss k) &&& (q_told P (ss k)))) (by omega) (by omega)
              exact fun q => c_102 (e.mpr q)
            refine z_iinc (v := nI (j + 1)) (lv' := [(0, _), (1, _), (2, _), (3, _), (4, _), (5, _), (6, _), (7, _)]) hJ d_Sx_read_108 7 rfl (zinc _) (by decide) rfl ?_
            refine z_goto hJ d_Sx_read_111 ?_
            have e := ih (by omega)
            rw [q_cnt_f (f := q_so P (ss k)) (by simp [q_so, h_102])] at e
            exact e
          · skip
            have h_102 : (q_metS P (q_all P &&& q_not j) &&& (q_told P (ss k))) = (q_nz (ss k) &&& (q_told P (ss k))) := by
              have e := nI_eq (a := (q_metS P (q_all P &&& q_not j) &&& (q_told P (ss k)))) (b := (q_nz (ss k) &&& (q_told P (ss k)))) (by omega) (by omega)
              exact e.mp c_102
            refine z_iinc (v := nI ((q_cnt (q_so P (ss k)) j) + 1)) (lv' := [(0, _), (1, _), (2, _), (3, _), (4, _), (5, _), (6, _), (7, _)]) hJ d_Sx_read_105 6 rfl (zinc _) (by decide) rfl ?_
            refine z_iinc (v := nI (j + 1)) (lv' := [(0, _), (1, _), (2, _), (3, _), (4, _), (5, _), (6, _), (7, _)]) hJ d_Sx_read_108 7 rfl (zinc _) (by decide) rfl ?_
            refine z_goto hJ d_Sx_read_111 ?_
            have e := ih (by omega)
            rw [q_cnt_t (f := q_so P (ss k)) (by simp [q_so, h_102])] at e
            exact e
      exact L77 0 (Nat.zero_le _)
    · skip
      have c0 := of_decide_eq_true c_25
      refine z_aload_n hJ d_Sx_read_28 0 rfl ?_
      refine z_ldc hJ d_Sx_read_29 c_Sx_249 ?_
      refine z_callVi hJ m_Sx_tell_5 k_Sx_55 zL.id d_Sx_read_31 hc_Sx 0 rfl rfl rfl (Nat.le_of_ble_eq_true rfl) ⟨by decide, by decide⟩ ?_
      exact z_ri hR d_Sx_read_34 (by simp [p_read, hq, hcl, c0]) (by simp [p_read, hq, hcl, c0])
  · skip
    refine z_iload_n hJ d_Sx_read_0 1 rfl ?_
    refine z_callSi hJ m_Sx_isSheet k_Sx_237 zL.nil d_Sx_read_1 rfl rfl (Nat.le_of_ble_eq_true rfl) ⟨by decide, by decide⟩ ?_
    refine zb_ne hJ d_Sx_read_4 (fun c_4 => False.elim (by rw [hq] at c_4; exact absurd c_4 (by decide))) (fun c_4 => ?_)
    refine z_aload_n hJ d_Sx_read_7 0 rfl ?_
    refine z_ldc hJ d_Sx_read_8 c_Sx_54 ?_
    refine z_callVi hJ m_Sx_tell_0 k_Sx_55 zL.id d_Sx_read_10 hc_Sx 0 rfl rfl rfl (Nat.le_of_ble_eq_true rfl) ⟨by decide, by decide⟩ ?_
    exact z_ri hR d_Sx_read_13 (by simp [p_read, hq, c_4]; try rfl) (by simp [p_read, hq, c_4])
set_option maxRecDepth 100000 in
theorem m_Sx_image {g : Nat → Nat → Nat} {a : Nat → Nat} {f : Nat → Int32} {P K T : RS} {tp : TS} {ss : Nat → SS} {es : Nat → Int32} {kp : Bool}   : zM g y_Sx_image b_Sx_image 1 (some .int) 2 [.ref (a 0)] (xW g a f P K T tp ss es kp) [.int 1] (xW g a f P P T tp ss es true) := by
  refine zMi (lv := [(0, .ref (a 0))]) (by decide) (Nat.le_of_ble_eq_true rfl) rfl (fun J hJ hR => ?_)
  refine z_aload_n hJ d_Sx_image_0 0 rfl ?_
  refine z_get hJ d_Sx_image_1 hc_Sx f_Sx_20 0 rfl rfl (by decide) ?_
  refine z_aload_n hJ d_Sx_image_4 0 rfl ?_
  refine z_get hJ d_Sx_image_5 hc_Sx f_Sx_16 0 rfl rfl (by decide) ?_
  refine z_callVv hJ m_Rd_become k_Sx_182 zL_KP d_Sx_image_8 hc_Rd 11 rfl rfl rfl (Nat.le_of_ble_eq_true rfl) ⟨by decide, by decide⟩ ?_
  refine z_aload_n hJ d_Sx_image_11 0 rfl ?_
  refine z_iconst (v := 1) hJ d_Sx_image_12 (by decide) ?_
  refine z_put (w' := xW g a f P P T tp ss es true) hJ d_Sx_image_13 hc_Sx f_Sx_43 0 rfl rfl rfl rfl (by decide) (Nat.le_of_ble_eq_true rfl) rfl ?_
  refine z_iconst (v := 1) hJ d_Sx_image_16 (by decide) ?_
  exact z_ri hR d_Sx_image_17 rfl rfl
set_option maxRecDepth 100000 in
theorem m_Sx_undo {g : Nat → Nat → Nat} {a : Nat → Nat} {f : Nat → Int32} {P K T : RS} {tp : TS} {ss : Nat → SS} {es : Nat → Int32} {kp : Bool}   : zM g y_Sx_undo b_Sx_undo 1 (some .int) 2 [.ref (a 0)] (xW g a f P K T tp ss es kp) [.int (p_undo f P K kp).1] (xW g a (p_undo f P K kp).2.1 (p_undo f P K kp).2.2 K T tp ss es kp) := by
  refine zMi (lv := [(0, .ref (a 0))]) (by decide) (Nat.le_of_ble_eq_true rfl) rfl (fun J hJ hR => ?_)
  refine z_aload_n hJ d_Sx_undo_0 0 rfl ?_
  refine z_get hJ d_Sx_undo_1 hc_Sx f_Sx_43 0 rfl rfl (by decide) ?_
  refine zb_ne hJ d_Sx_undo_4 (fun c_4 => ?_) (fun c_4 => ?_)
  · skip
    refine z_aload_n hJ d_Sx_undo_14 0 rfl ?_
    refine z_get hJ d_Sx_undo_15 hc_Sx f_Sx_16 0 rfl rfl (by decide) ?_
    refine z_aload_n hJ d_Sx_undo_18 0 rfl ?_
    refine z_get hJ d_Sx_undo_19 hc_Sx f_Sx_20 0 rfl rfl (by decide) ?_
    refine z_callVv hJ m_Rd_become k_Sx_182 zL_PK d_Sx_undo_22 hc_Rd 2 rfl rfl rfl (Nat.le_of_ble_eq_true rfl) ⟨by decide, by decide⟩ ?_
    refine z_aload_n hJ d_Sx_undo_25 0 rfl ?_
    refine z_get hJ d_Sx_undo_26 hc_Sx f_Sx_16 0 rfl rfl (by decide) ?_
    refine z_get hJ d_Sx_undo_29 hc_Rd f_Sx_59 2 rfl rfl (by decide) ?_
    exact z_ri hR d_Sx_undo_32 (by simp [p_undo, c_4]; try rfl) (by simp [p_undo, c_4])
  · skip
    refine z_aload_n hJ d_Sx_undo_7 0 rfl ?_
    refine z_ldc hJ d_Sx_undo_8 c_Sx_186 ?_
    refine z_callVi hJ m_Sx_tell_3 k_Sx_55 zL.id d_Sx_undo_10 hc_Sx 0 rfl rfl rfl (Nat.le_of_ble_eq_true rfl) ⟨by decide, by decide⟩ ?_
    exact z_ri hR d_Sx_undo_13 (by simp [p_undo, c_4]; try rfl) (by simp [p_undo, c_4])
set_option maxRecDepth 100000 in
theorem m_Sx_tear {g : Nat → Nat → Nat} {a : Nat → Nat} {f : Nat → Int32} {P K T : RS} {tp : TS} {ss : Nat → SS} {es : Nat → Int32} {kp : Bool}   : zM g y_Sx_tear b_Sx_tear 2 (some .int) 0 [.ref (a 0)] (xW g a f P K T tp ss es kp) [.int (zB kp)] (xW g a f P K T tp ss es false) := by
  refine zMi (lv := [(0, .ref (a 0))]) (by decide) (Nat.le_of_ble_eq_true rfl) rfl (fun J hJ hR => ?_)
  refine z_aload_n hJ d_Sx_tear_0 0 rfl ?_
  refine z_get hJ d_Sx_tear_1 hc_Sx f_Sx_43 0 rfl rfl (by decide) ?_
  refine zb_eq hJ d_Sx_tear_4 (fun c_4 => ?_) (fun c_4 => ?_)
  · skip
    refine z_iconst (v := 0) hJ d_Sx_tear_11 (by decide) ?_
    refine z_istore_n (lv' := [(0, _), (1, _)]) hJ d_Sx_tear_12 (by decide) rfl ?_
    refine z_aload_n hJ d_Sx_tear_13 0 rfl ?_
    refine z_iconst (v := 0) hJ d_Sx_tear_14 (by decide) ?_
    refine z_put (w' := xW g a f P K T tp ss es false) hJ d_Sx_tear_15 hc_Sx f_Sx_43 0 rfl rfl rfl rfl (by decide) (Nat.le_of_ble_eq_true rfl) rfl ?_
    refine z_iload_n hJ d_Sx_tear_18 1 rfl ?_
    exact z_ri hR d_Sx_tear_19 (by rw [c_4]; rfl) rfl
  · skip
    refine z_iconst (v := 1) hJ d_Sx_tear_7 (by decide) ?_
    refine z_goto hJ d_Sx_tear_8 ?_
    refine z_istore_n (lv' := [(0, _), (1, _)]) hJ d_Sx_tear_12 (by decide) rfl ?_
    refine z_aload_n hJ d_Sx_tear_13 0 rfl ?_
    refine z_iconst (v := 0) hJ d_Sx_tear_14 (by decide) ?_
    refine z_put (w' := xW g a f P K T tp ss es false) hJ d_Sx_tear_15 hc_Sx f_Sx_43 0 rfl rfl rfl rfl (by decide) (Nat.le_of_ble_eq_true rfl) rfl ?_
    refine z_iload_n hJ d_Sx_tear_18 1 rfl ?_
    exact z_ri hR d_Sx_tear_19 (by rw [c_4]; rfl) rfl
set_option maxRecDepth 100000 in
theorem m_Sx_count {g : Nat → Nat → Nat} {a : Nat → Nat} {f : Nat → Int32} {P K T : RS} {tp : TS} {ss : Nat → SS} {es : Nat → Int32} {kp : Bool} {w : Int32} (hP : zPi P) : zM g y_Sx_count b_Sx_count 2 (some .int) 2 [.ref (a 0), .int w] (xW g a f P K T tp ss es kp) [.int (p_count f P tp w).1] (xW g a (p_count f P tp w).2 P K T tp ss es kp) := by
  have hj7 := hP.1
  have hj8 := hP.2.1
  have haw := q_awk_31 hP.1
  have has : P.2.2.2.1 < 2 ^ 31 := Nat.lt_trans hP.2.2 (by decide)
  refine zMi (lv := [(0, .ref (a 0)), (1, .int w)]) (by decide) (Nat.le_of_ble_eq_true rfl) rfl (fun J hJ hR => ?_)
  refine z_iload_n hJ d_Sx_count_0 1 rfl ?_
  refine z_sw (tgt := 96) [(0, 36), (1, 44), (2, 52), (3, 60), (4, 78)] hJ d_Sx_count_1 (by decide) (by decide) ?_ (fun c_1 => ?_)
  · intro q hq e
    simp only [List.mem_cons, List.not_mem_nil, or_false] at hq
    rcases hq with rfl | rfl | rfl | rfl | rfl
    · have c_1 := e.trans (show Int32.ofInt 0 = 0 by decide)
      refine z_aload_n hJ d_Sx_count_36 0 rfl ?_
      refine z_get hJ d_Sx_count_37 hc_Sx f_Sx_16 0 rfl rfl (by decide) ?_
      refine z_get hJ d_Sx_count_40 hc_Rd f_Sx_59 2 rfl rfl (by decide) ?_
      exact z_ri hR d_Sx_count_43 (by simp [p_count, c_1]; try rfl) (by simp [p_count, c_1])
    · have c_1 := e.trans (show Int32.ofInt 1 = 1 by decide)
      refine z_aload_n hJ d_Sx_count_44 0 rfl ?_
      refine z_get hJ d_Sx_count_45 hc_Sx f_Sx_16 0 rfl rfl (by decide) ?_
      refine z_get hJ d_Sx_count_48 hc_Rd f_Sx_125 2 rfl rfl (by decide) ?_
      exact z_ri hR d_Sx_count_51 (by simp [p_count, c_1]; try rfl) (by simp [p_count, c_1])
    · have c_1 := e.trans (show Int32.ofInt 2 = 2 by decide)
      refine z_aload_n hJ d_Sx_count_52 0 rfl ?_
      refine z_get hJ d_Sx_count_53 hc_Sx f_Sx_29 0 rfl rfl (by decide) ?_
      refine z_get hJ d_Sx_count_56 hc_Tp f_Sx_223 29 rfl rfl (by decide) ?_
      exact z_ri hR d_Sx_count_59 (by simp [p_count, c_1]; try rfl) (by simp [p_count, c_1])
    · have c_1 := e.trans (show Int32.ofInt 3 = 3 by decide)
      refine z_aload_n hJ d_Sx_count_60 0 rfl ?_
      refine z_get hJ d_Sx_count_61 hc_Sx f_Sx_16 0 rfl rfl (by decide) ?_
      refine z_get hJ d_Sx_count_64 hc_Rd f_Sx_80 2 rfl rfl (by decide) ?_
      refine z_aload_n hJ d_Sx_count_67 0 rfl ?_
      refine z_get hJ d_Sx_count_68 hc_Sx f_Sx_16 0 rfl rfl (by decide) ?_
      refine z_get hJ d_Sx_count_71 hc_Rd f_Sx_59 2 rfl rfl (by decide) ?_
      refine z_callSi hJ (m_Sx_sumOf hP.1 (by decide)) k_Sx_275 zL_skills d_Sx_count_74 rfl rfl (Nat.le_of_ble_eq_true rfl) ⟨by decide, by decide⟩ ?_
      exact z_ri hR d_Sx_count_77 (by simp [p_count, c_1]; try rfl) (by simp [p_count, c_1])
    · have c_1 := e.trans (show Int32.ofInt 4 = 4 by decide)
      refine z_aload_n hJ d_Sx_count_78 0 rfl ?_
      refine z_get hJ d_Sx_count_79 hc_Sx f_Sx_16 0 rfl rfl (by decide) ?_
      refine z_get hJ d_Sx_count_82 hc_Rd f_Sx_147 2 rfl rfl (by decide) ?_
      refine z_aload_n hJ d_Sx_count_85 0 rfl ?_
      refine z_get hJ d_Sx_count_86 hc_Sx f_Sx_16 0 rfl rfl (by decide) ?_
      refine z_get hJ d_Sx_count_89 hc_Rd f_Sx_125 2 rfl rfl (by decide) ?_
      refine z_callSi hJ (m_Sx_sumOf hP.2.1 (by decide)) k_Sx_275 zL_pays d_Sx_count_92 rfl rfl (Nat.le_of_ble_eq_true rfl) ⟨by decide, by decide⟩ ?_
      exact z_ri hR d_Sx_count_95 (by simp [p_count, c_1]; try rfl) (by simp [p_count, c_1])
  · skip
    have s_0 : ¬ w = 0 := fun e => by rw [e] at c_1; exact absurd c_1 (by decide)
    have s_1 : ¬ w = 1 := fun e => by rw [e] at c_1; exact absurd c_1 (by decide)
    have s_2 : ¬ w = 2 := fun e => by rw [e] at c_1; exact absurd c_1 (by decide)
    have s_3 : ¬ w = 3 := fun e => by rw [e] at c_1; exact absurd c_1 (by decide)
    have s_4 : ¬ w = 4 := fun e => by rw [e] at c_1; exact absurd c_1 (by decide)
    refine z_aload_n hJ d_Sx_count_96 0 rfl ?_
    refine z_ldc hJ d_Sx_count_97 c_Sx_54 ?_
    refine z_callVi hJ m_Sx_tell_0 k_Sx_55 zL.id d_Sx_count_99 hc_Sx 0 rfl rfl rfl (Nat.le_of_ble_eq_true rfl) ⟨by decide, by decide⟩ ?_
    exact z_ri hR d_Sx_count_102 (by simp [p_count, s_0, s_1, s_2, s_3, s_4, c_1]; try rfl) (by simp [p_count, s_0, s_1, s_2, s_3, s_4, c_1])
set_option maxRecDepth 100000 in
theorem m_Sx_status {g : Nat → Nat → Nat} {a : Nat → Nat} {f : Nat → Int32} {P K T : RS} {tp : TS} {ss : Nat → SS} {es : Nat → Int32} {kp : Bool} {w : Int32}  : zM g y_Sx_status b_Sx_status 2 (some .int) 2 [.ref (a 0), .int w] (xW g a f P K T tp ss es kp) [.int (p_status f w).1] (xW g a (p_status f w).2 P K T tp ss es kp) := by
  refine zMi (lv := [(0, .ref (a 0)), (1, .int w)]) (by decide) (Nat.le_of_ble_eq_true rfl) rfl (fun J hJ hR => ?_)
  rcases q_in_6 w with ⟨k, hk, rfl⟩ | hq
  · have hq := q_in_6_t hk
    have hcl : (nI k).toNatClampNeg = k := nI_clamp (by omega)
    have hm1 : ¬ nI k = -1 := fun e => by
      have h2 := nI_pos (n := k) (by omega)
      rw [e] at h2
      exact h2 (by decide)
    refine z_iload_n hJ d_Sx_status_0 1 rfl ?_
    refine z_iconst (v := (-1)) hJ d_Sx_status_1 (by decide) ?_
    refine z_icmp_ne hJ d_Sx_status_2 (fun c_2 => ?_) (fun c_2 => False.elim (by exact hm1 c_2))
    refine z_iload_n hJ d_Sx_status_15 1 rfl ?_
    refine z_iconst (v := 0) hJ d_Sx_status_16 (by decide) ?_
    refine z_bipush (v := 6) hJ d_Sx_status_17 (by decide) ?_
    refine z_callSi hJ m_Sx_isWithin k_Sx_110 zL.nil d_Sx_status_19 rfl rfl (Nat.le_of_ble_eq_true rfl) ⟨by decide, by decide⟩ ?_
    refine zb_ne hJ d_Sx_status_22 (fun c_22 => ?_) (fun c_22 => False.elim (by rw [hq] at c_22; exact absurd c_22 (by decide)))
    refine z_aload_n hJ d_Sx_status_32 0 rfl ?_
    refine z_get hJ d_Sx_status_33 hc_Sx f_Sx_9 0 rfl rfl (by decide) ?_
    refine z_iload_n hJ d_Sx_status_36 1 rfl ?_
    refine z_iald hJ d_Sx_status_37 1 (k) rfl rfl (by omega) (by decide) ?_
    exact z_ri hR d_Sx_status_38 (by simp [p_status, hq, hcl, hm1]) (by simp [p_status, hq, hcl, hm1])
  · skip
    refine z_iload_n hJ d_Sx_status_0 1 rfl ?_
    refine z_iconst (v := (-1)) hJ d_Sx_status_1 (by decide) ?_
    refine z_icmp_ne hJ d_Sx_status_2 (fun c_2 => ?_) (fun c_2 => ?_)
    · skip
      refine z_iload_n hJ d_Sx_status_15 1 rfl ?_
      refine z_iconst (v := 0) hJ d_Sx_status_16 (by decide) ?_
      refine z_bipush (v := 6) hJ d_Sx_status_17 (by decide) ?_
      refine z_callSi hJ m_Sx_isWithin k_Sx_110 zL.nil d_Sx_status_19 rfl rfl (Nat.le_of_ble_eq_true rfl) ⟨by decide, by decide⟩ ?_
      refine zb_ne hJ d_Sx_status_22 (fun c_22 => False.elim (by rw [hq] at c_22; exact absurd c_22 (by decide))) (fun c_22 => ?_)
      refine z_aload_n hJ d_Sx_status_25 0 rfl ?_
      refine z_ldc hJ d_Sx_status_26 c_Sx_54 ?_
      refine z_callVi hJ m_Sx_tell_0 k_Sx_55 zL.id d_Sx_status_28 hc_Sx 0 rfl rfl rfl (Nat.le_of_ble_eq_true rfl) ⟨by decide, by decide⟩ ?_
      exact z_ri hR d_Sx_status_31 (by simp [p_status, hq, c_2, c_22]) (by simp [p_status, hq, c_2, c_22])
    · skip
      refine z_aload_n hJ d_Sx_status_5 0 rfl ?_
      refine z_get hJ d_Sx_status_6 hc_Sx f_Sx_9 0 rfl rfl (by decide) ?_
      refine z_bipush (v := 7) hJ d_Sx_status_9 (by decide) ?_
      refine z_callSi hJ (m_Sx_sumOf (n := 7) (c := 7) (Nat.le_refl 7) (by decide)) k_Sx_275 zL_found d_Sx_status_11 rfl rfl (Nat.le_of_ble_eq_true rfl) ⟨by decide, by decide⟩ ?_
      exact z_ri hR d_Sx_status_14 (by simp [p_status, hq, c_2]) (by simp [p_status, hq, c_2])
