set_option maxRecDepth 100000 in
theorem m_Sx_set {g : Nat → Nat → Nat} {a : Nat → Nat} {f : Nat → Int32} {P K T : RS} {tp : TS} {ss : Nat → SS} {es : Nat → Int32} {kp : Bool} {i w v : Int32} (hP : zPi P) : zM g y_Sx_set b_Sx_set 6 (some .int) 3 [.ref (a 0), .int i, .int w, .int v] (xW g a f P K T tp ss es kp) [.int (p_set f P i w v).1] (xW g a (p_set f P i w v).2.1 (p_set f P i w v).2.2 K T tp ss es kp) := by
  refine zMi (lv := [(0, .ref (a 0)), (1, .int i), (2, .int w), (3, .int v)]) (by decide) (Nat.le_of_ble_eq_true rfl) rfl (fun J hJ hR => ?_)
  rcases q_ix_or i (n := P.2.1) (by first | exact Nat.le_trans hP.1 (by decide) | exact hP.2.1) with ⟨j, hj, rfl⟩ | hq
  · have hj7 := hP.1
    have hj8 := hP.2.1
    have haw := q_awk_31 hP.1
    have has : P.2.2.2.1 < 2 ^ 31 := Nat.lt_trans hP.2.2 (by decide)
    have hq := q_ix_t hj (n := P.2.1) (by omega)
    have hcl : (nI j).toNatClampNeg = j := nI_clamp (by omega)
    refine z_aload_n hJ d_Sx_set_0 0 rfl ?_
    refine z_iload_n hJ d_Sx_set_1 1 rfl ?_
    refine z_callVi hJ m_Sx_isFellow k_Sx_68 zL.id d_Sx_set_2 hc_Sx 0 rfl rfl rfl (Nat.le_of_ble_eq_true rfl) ⟨by decide, by decide⟩ ?_
    refine zb_eq hJ d_Sx_set_5 (fun c_5 => False.elim (by rw [hq] at c_5; exact absurd c_5 (by decide))) (fun c_5 => ?_)
    refine z_iload_n hJ d_Sx_set_8 2 rfl ?_
    refine z_iload_n hJ d_Sx_set_9 3 rfl ?_
    refine z_callSi hJ m_Sx_maySet k_Sx_103 zL.nil d_Sx_set_10 rfl rfl (Nat.le_of_ble_eq_true rfl) ⟨by decide, by decide⟩ ?_
    refine zb_ne hJ d_Sx_set_13 (fun c_13 => ?_) (fun c_13 => ?_)
    · skip
      refine z_iload_n hJ d_Sx_set_23 2 rfl ?_
      refine z_iconst (v := 4) hJ d_Sx_set_24 (by decide) ?_
      refine z_icmp_ne hJ d_Sx_set_25 (fun c_25 => ?_) (fun c_25 => ?_)
      · skip
        refine z_iload_n hJ d_Sx_set_47 2 rfl ?_
        refine z_iconst (v := 1) hJ d_Sx_set_48 (by decide) ?_
        refine z_icmp_ne hJ d_Sx_set_49 (fun c_49 => ?_) (fun c_49 => ?_)
        · skip
          refine z_iload_n hJ d_Sx_set_62 2 rfl ?_
          refine z_iconst (v := 2) hJ d_Sx_set_63 (by decide) ?_
          refine z_icmp_ne hJ d_Sx_set_64 (fun c_64 => ?_) (fun c_64 => ?_)
          · skip
            refine z_aload_n hJ d_Sx_set_77 0 rfl ?_
            refine z_get hJ d_Sx_set_78 hc_Sx f_Sx_16 0 rfl rfl (by decide) ?_
            refine z_get hJ d_Sx_set_81 hc_Rd f_Sx_80 2 rfl rfl (by decide) ?_
            refine z_astore (lv' := [(0, _), (1, _), (2, _), (3, _), (4, _)]) hJ d_Sx_set_84 (by decide) rfl ?_
            refine z_aload hJ d_Sx_set_86 4 rfl ?_
            refine z_iload_n hJ d_Sx_set_88 1 rfl ?_
            refine z_iald hJ d_Sx_set_89 6 (j) rfl rfl (by omega) (by decide) ?_
            refine z_istore (lv' := [(0, _), (1, _), (2, _), (3, _), (4, _), (5, _)]) hJ d_Sx_set_90 (by decide) rfl ?_
            refine z_aload hJ d_Sx_set_92 4 rfl ?_
            refine z_iload_n hJ d_Sx_set_94 1 rfl ?_
            refine z_iload_n hJ d_Sx_set_95 3 rfl ?_
            refine z_n (fun x_1 e_1 => ?_)
            refine z_iast (w' := xW g a f (P.1, P.2.1, P.2.2.1, P.2.2.2.1, P.2.2.2.2.1, P.2.2.2.2.2.1, P.2.2.2.2.2.2.1, upd P.2.2.2.2.2.2.2.1 (j) x_1, P.2.2.2.2.2.2.2.2.1, P.2.2.2.2.2.2.2.2.2.1, P.2.2.2.2.2.2.2.2.2.2.1, P.2.2.2.2.2.2.2.2.2.2.2) K T tp ss es kp) hJ d_Sx_set_96 6 (j) rfl rfl (by omega) (by decide) rfl ?_
            refine z_iload hJ d_Sx_set_97 5 rfl ?_
            subst e_1
            exact z_ri hR d_Sx_set_99 (by unfold p_set; rw [hq, c_13]; simp [hcl, q_setM, q_setG, q_setS, c_25, c_49, c_64]) (by unfold p_set; rw [hq, c_13]; simp [hcl, q_setM, q_setG, q_setS, c_25, c_49, c_64])
          · skip
            refine z_aload_n hJ d_Sx_set_67 0 rfl ?_
            refine z_get hJ d_Sx_set_68 hc_Sx f_Sx_16 0 rfl rfl (by decide) ?_
            refine z_get hJ d_Sx_set_71 hc_Rd f_Sx_77 2 rfl rfl (by decide) ?_
            refine z_goto hJ d_Sx_set_74 ?_
            refine z_astore (lv' := [(0, _), (1, _), (2, _), (3, _), (4, _)]) hJ d_Sx_set_84 (by decide) rfl ?_
            refine z_aload hJ d_Sx_set_86 4 rfl ?_
            refine z_iload_n hJ d_Sx_set_88 1 rfl ?_
            refine z_iald hJ d_Sx_set_89 5 (j) rfl rfl (by omega) (by decide) ?_
            refine z_istore (lv' := [(0, _), (1, _), (2, _), (3, _), (4, _), (5, _)]) hJ d_Sx_set_90 (by decide) rfl ?_
            refine z_aload hJ d_Sx_set_92 4 rfl ?_
            refine z_iload_n hJ d_Sx_set_94 1 rfl ?_
            refine z_iload_n hJ d_Sx_set_95 3 rfl ?_
            refine z_n (fun x_2 e_2 => ?_)
            refine z_iast (w' := xW g a f (P.1, P.2.1, P.2.2.1, P.2.2.2.1, P.2.2.2.2.1, P.2.2.2.2.2.1, upd P.2.2.2.2.2.2.1 (j) x_2, P.2.2.2.2.2.2.2.1, P.2.2.2.2.2.2.2.2.1, P.2.2.2.2.2.2.2.2.2.1, P.2.2.2.2.2.2.2.2.2.2.1, P.2.2.2.2.2.2.2.2.2.2.2) K T tp ss es kp) hJ d_Sx_set_96 5 (j) rfl rfl (by omega) (by decide) rfl ?_
            refine z_iload hJ d_Sx_set_97 5 rfl ?_
            subst e_2
            exact z_ri hR d_Sx_set_99 (by unfold p_set; rw [hq, c_13]; simp [hcl, q_setM, q_setG, q_setS, c_25, c_49, c_64]) (by unfold p_set; rw [hq, c_13]; simp [hcl, q_setM, q_setG, q_setS, c_25, c_49, c_64])
        · skip
          refine z_aload_n hJ d_Sx_set_52 0 rfl ?_
          refine z_get hJ d_Sx_set_53 hc_Sx f_Sx_16 0 rfl rfl (by decide) ?_
          refine z_get hJ d_Sx_set_56 hc_Rd f_Sx_74 2 rfl rfl (by decide) ?_
          refine z_goto hJ d_Sx_set_59 ?_
          refine z_astore (lv' := [(0, _), (1, _), (2, _), (3, _), (4, _)]) hJ d_Sx_set_84 (by decide) rfl ?_
          refine z_aload hJ d_Sx_set_86 4 rfl ?_
          refine z_iload_n hJ d_Sx_set_88 1 rfl ?_
          refine z_iald hJ d_Sx_set_89 4 (j) rfl rfl (by omega) (by decide) ?_
          refine z_istore (lv' := [(0, _), (1, _), (2, _), (3, _), (4, _), (5, _)]) hJ d_Sx_set_90 (by decide) rfl ?_
          refine z_aload hJ d_Sx_set_92 4 rfl ?_
          refine z_iload_n hJ d_Sx_set_94 1 rfl ?_
          refine z_iload_n hJ d_Sx_set_95 3 rfl ?_
          refine z_n (fun x_3 e_3 => ?_)
          refine z_iast (w' := xW g a f (P.1, P.2.1, P.2.2.1, P.2.2.2.1, P.2.2.2.2.1, upd P.2.2.2.2.2.1 (j) x_3, P.2.2.2.2.2.2.1, P.2.2.2.2.2.2.2.1, P.2.2.2.2.2.2.2.2.1, P.2.2.2.2.2.2.2.2.2.1, P.2.2.2.2.2.2.2.2.2.2.1, P.2.2.2.2.2.2.2.2.2.2.2) K T tp ss es kp) hJ d_Sx_set_96 4 (j) rfl rfl (by omega) (by decide) rfl ?_
          refine z_iload hJ d_Sx_set_97 5 rfl ?_
          subst e_3
          exact z_ri hR d_Sx_set_99 (by unfold p_set; rw [hq, c_13]; simp [hcl, q_setM, q_setG, q_setS, c_25, c_49]) (by unfold p_set; rw [hq, c_13]; simp [hcl, q_setM, q_setG, q_setS, c_25, c_49])
      · skip
        refine z_aload_n hJ d_Sx_set_28 0 rfl ?_
        refine z_get hJ d_Sx_set_29 hc_Sx f_Sx_16 0 rfl rfl (by decide) ?_
        refine z_iload_n hJ d_Sx_set_32 1 rfl ?_
        refine z_iload_n hJ d_Sx_set_33 3 rfl ?_
        refine z_iconst (v := 1) hJ d_Sx_set_34 (by decide) ?_
        refine z_icmp_ne hJ d_Sx_set_35 (fun c_35 => ?_) (fun c_35 => ?_)
        · skip
          refine z_iconst (v := 0) hJ d_Sx_set_42 (by decide) ?_
          refine z_callVi hJ (m_Rd_putAsleep (c := false) has (by omega)) k_Sx_106 zL_P d_Sx_set_43 hc_Rd 2 rfl rfl rfl (Nat.le_of_ble_eq_true rfl) ⟨by decide, by decide⟩ ?_
          exact z_ri hR d_Sx_set_46 (by unfold p_set; rw [hq, c_13]; simp [hcl, q_setM, q_setG, q_setS, c_25]) (by unfold p_set; rw [hq, c_13, decide_eq_false c_35]; simp [hcl, q_setM, q_setG, q_setS, c_25])
        · skip
          refine z_iconst (v := 1) hJ d_Sx_set_38 (by decide) ?_
          refine z_goto hJ d_Sx_set_39 ?_
          refine z_callVi hJ (m_Rd_putAsleep (c := true) has (by omega)) k_Sx_106 zL_P d_Sx_set_43 hc_Rd 2 rfl rfl rfl (Nat.le_of_ble_eq_true rfl) ⟨by decide, by decide⟩ ?_
          exact z_ri hR d_Sx_set_46 (by unfold p_set; rw [hq, c_13]; simp [hcl, q_setM, q_setG, q_setS, c_25]) (by unfold p_set; rw [hq, c_13, decide_eq_true c_35]; simp [hcl, q_setM, q_setG, q_setS, c_25])
    · skip
      refine z_aload_n hJ d_Sx_set_16 0 rfl ?_
      refine z_ldc hJ d_Sx_set_17 c_Sx_54 ?_
      refine z_callVi hJ m_Sx_tell_0 k_Sx_55 zL.id d_Sx_set_19 hc_Sx 0 rfl rfl rfl (Nat.le_of_ble_eq_true rfl) ⟨by decide, by decide⟩ ?_
      exact z_ri hR d_Sx_set_22 (by unfold p_set; rw [hq, c_13]; rfl) (by unfold p_set; rw [hq, c_13]; rfl)
  · skip
    refine z_aload_n hJ d_Sx_set_0 0 rfl ?_
    refine z_iload_n hJ d_Sx_set_1 1 rfl ?_
    refine z_callVi hJ m_Sx_isFellow k_Sx_68 zL.id d_Sx_set_2 hc_Sx 0 rfl rfl rfl (Nat.le_of_ble_eq_true rfl) ⟨by decide, by decide⟩ ?_
    refine zb_eq hJ d_Sx_set_5 (fun c_5 => ?_) (fun c_5 => False.elim (by rw [hq] at c_5; exact absurd c_5 (by decide)))
    refine z_aload_n hJ d_Sx_set_16 0 rfl ?_
    refine z_ldc hJ d_Sx_set_17 c_Sx_54 ?_
    refine z_callVi hJ m_Sx_tell_0 k_Sx_55 zL.id d_Sx_set_19 hc_Sx 0 rfl rfl rfl (Nat.le_of_ble_eq_true rfl) ⟨by decide, by decide⟩ ?_
    exact z_ri hR d_Sx_set_22 (by simp [p_set, hq, c_5]; try rfl) (by simp [p_set, hq, c_5])
set_option maxRecDepth 100000 in
theorem m_Sx_helps {g : Nat → Nat → Nat} {a : Nat → Nat} {f : Nat → Int32} {P K T : RS} {tp : TS} {ss : Nat → SS} {es : Nat → Int32} {kp : Bool} {i u : Int32} (hP : zPi P) : zM g y_Sx_helps b_Sx_helps 4 (some .int) 3 [.ref (a 0), .int i, .int u] (xW g a f P K T tp ss es kp) [.int (p_helps f P i u).1] (xW g a (p_helps f P i u).2 P K T tp ss es kp) := by
  refine zMi (lv := [(0, .ref (a 0)), (1, .int i), (2, .int u)]) (by decide) (Nat.le_of_ble_eq_true rfl) rfl (fun J hJ hR => ?_)
  rcases q_ix_or2 i u (n := P.2.1) (t := P.2.2.1) (Nat.le_trans hP.1 (by decide)) hP.2.1 with ⟨j, k, hj, hk, rfl, rfl⟩ | ⟨hq, hq2⟩ | hq
  · have hj7 := hP.1
    have hj8 := hP.2.1
    have haw := q_awk_31 hP.1
    have has : P.2.2.2.1 < 2 ^ 31 := Nat.lt_trans hP.2.2 (by decide)
    have hq := q_ix_t hj (n := P.2.1) (by omega)
    have hq2 := q_ix_t hk (n := P.2.2.1) (by omega)
    have hcl : (nI j).toNatClampNeg = j := nI_clamp (by omega)
    have hcl2 : (nI k).toNatClampNeg = k := nI_clamp (by omega)
    refine z_aload_n hJ d_Sx_helps_0 0 rfl ?_
    refine z_iload_n hJ d_Sx_helps_1 1 rfl ?_
    refine z_callVi hJ m_Sx_isFellow k_Sx_68 zL.id d_Sx_helps_2 hc_Sx 0 rfl rfl rfl (Nat.le_of_ble_eq_true rfl) ⟨by decide, by decide⟩ ?_
    refine zb_eq hJ d_Sx_helps_5 (fun c_5 => False.elim (by rw [hq] at c_5; exact absurd c_5 (by decide))) (fun c_5 => ?_)
    refine z_aload_n hJ d_Sx_helps_8 0 rfl ?_
    refine z_iload_n hJ d_Sx_helps_9 2 rfl ?_
    refine z_callVi hJ m_Sx_isTask k_Sx_132 zL.id d_Sx_helps_10 hc_Sx 0 rfl rfl rfl (Nat.le_of_ble_eq_true rfl) ⟨by decide, by decide⟩ ?_
    refine zb_ne hJ d_Sx_helps_13 (fun c_13 => ?_) (fun c_13 => False.elim (by rw [hq2] at c_13; exact absurd c_13 (by decide)))
    refine z_aload_n hJ d_Sx_helps_23 0 rfl ?_
    refine z_get hJ d_Sx_helps_24 hc_Sx f_Sx_16 0 rfl rfl (by decide) ?_
    refine z_callVi hJ (m_Rd_awakeSet hP.1) k_Sx_90 zL_P d_Sx_helps_27 hc_Rd 2 rfl rfl rfl (Nat.le_of_ble_eq_true rfl) ⟨by decide, by decide⟩ ?_
    refine z_istore_n (lv' := [(0, _), (1, _), (2, _), (3, _)]) hJ d_Sx_helps_30 (by decide) rfl ?_
    refine z_aload_n hJ d_Sx_helps_31 0 rfl ?_
    refine z_get hJ d_Sx_helps_32 hc_Sx f_Sx_16 0 rfl rfl (by decide) ?_
    refine z_iload_n hJ d_Sx_helps_35 1 rfl ?_
    refine z_iload_n hJ d_Sx_helps_36 2 rfl ?_
    refine z_iload_n hJ d_Sx_helps_37 3 rfl ?_
    refine z_aload_n hJ d_Sx_helps_38 0 rfl ?_
    refine z_get hJ d_Sx_helps_39 hc_Sx f_Sx_16 0 rfl rfl (by decide) ?_
    refine z_iload_n hJ d_Sx_helps_42 3 rfl ?_
    refine z_callVi hJ (m_Rd_spoiltSet hP.1 (q_awk_31 hP.1)) k_Sx_135 zL_P d_Sx_helps_43 hc_Rd 2 rfl rfl rfl (Nat.le_of_ble_eq_true rfl) ⟨by decide, by decide⟩ ?_
    refine z_callVi hJ (m_Rd_helpOf (by omega) (by omega) haw (q_spm_31 hP.1)) k_Sx_159 zL_P d_Sx_helps_46 hc_Rd 2 rfl rfl rfl (Nat.le_of_ble_eq_true rfl) ⟨by decide, by decide⟩ ?_
    exact z_ri hR d_Sx_helps_49 (by simp [p_helps, hq, hq2, hcl, hcl2, c_5, c_13]; try rfl) (by simp [p_helps, hq, hq2, hcl, hcl2, c_5, c_13])
  · have hcase := hq2
    refine z_aload_n hJ d_Sx_helps_0 0 rfl ?_
    refine z_iload_n hJ d_Sx_helps_1 1 rfl ?_
    refine z_callVi hJ m_Sx_isFellow k_Sx_68 zL.id d_Sx_helps_2 hc_Sx 0 rfl rfl rfl (Nat.le_of_ble_eq_true rfl) ⟨by decide, by decide⟩ ?_
    refine zb_eq hJ d_Sx_helps_5 (fun c_5 => False.elim (by rw [hq] at c_5; exact absurd c_5 (by decide))) (fun c_5 => ?_)
    refine z_aload_n hJ d_Sx_helps_8 0 rfl ?_
    refine z_iload_n hJ d_Sx_helps_9 2 rfl ?_
    refine z_callVi hJ m_Sx_isTask k_Sx_132 zL.id d_Sx_helps_10 hc_Sx 0 rfl rfl rfl (Nat.le_of_ble_eq_true rfl) ⟨by decide, by decide⟩ ?_
    refine zb_ne hJ d_Sx_helps_13 (fun c_13 => False.elim (by rw [hq2] at c_13; exact absurd c_13 (by decide))) (fun c_13 => ?_)
    refine z_aload_n hJ d_Sx_helps_16 0 rfl ?_
    refine z_ldc hJ d_Sx_helps_17 c_Sx_54 ?_
    refine z_callVi hJ m_Sx_tell_0 k_Sx_55 zL.id d_Sx_helps_19 hc_Sx 0 rfl rfl rfl (Nat.le_of_ble_eq_true rfl) ⟨by decide, by decide⟩ ?_
    exact z_ri hR d_Sx_helps_22 (by simp [p_helps, hq, hq2, c_5, c_13]; try rfl) (by simp [p_helps, hq, hq2, c_5, c_13])
  · skip
    refine z_aload_n hJ d_Sx_helps_0 0 rfl ?_
    refine z_iload_n hJ d_Sx_helps_1 1 rfl ?_
    refine z_callVi hJ m_Sx_isFellow k_Sx_68 zL.id d_Sx_helps_2 hc_Sx 0 rfl rfl rfl (Nat.le_of_ble_eq_true rfl) ⟨by decide, by decide⟩ ?_
    refine zb_eq hJ d_Sx_helps_5 (fun c_5 => ?_) (fun c_5 => False.elim (by rw [hq] at c_5; exact absurd c_5 (by decide)))
    refine z_aload_n hJ d_Sx_helps_16 0 rfl ?_
    refine z_ldc hJ d_Sx_helps_17 c_Sx_54 ?_
    refine z_callVi hJ m_Sx_tell_0 k_Sx_55 zL.id d_Sx_helps_19 hc_Sx 0 rfl rfl rfl (Nat.le_of_ble_eq_true rfl) ⟨by decide, by decide⟩ ?_
    exact z_ri hR d_Sx_helps_22 (by simp [p_helps, hq, c_5]; try rfl) (by simp [p_helps, hq, c_5])
set_option maxRecDepth 100000 in
theorem m_Sx_when {g : Nat → Nat → Nat} {a : Nat → Nat} {f : Nat → Int32} {P K T : RS} {tp : TS} {ss : Nat → SS} {es : Nat → Int32} {kp : Bool} {i : Int32} (hP : zPi P) : zM g y_Sx_when b_Sx_when 3 (some .int) 4 [.ref (a 0), .int i] (xW g a f P K T tp ss es kp) [.int (p_when f P T i).1] (xW g a (p_when f P T i).2.1 P K (p_when f P T i).2.2 tp ss es kp) := by
  refine zMi (lv := [(0, .ref (a 0)), (1, .int i)]) (by decide) (Nat.le_of_ble_eq_true rfl) rfl (fun J hJ hR => ?_)
  rcases q_ix_or i (n := P.2.2.1) (by first | exact Nat.le_trans hP.1 (by decide) | exact hP.2.1) with ⟨k, hj, rfl⟩ | hq
  · have hj7 := hP.1
    have hj8 := hP.2.1
    have haw := q_awk_31 hP.1
    have has : P.2.2.2.1 < 2 ^ 31 := Nat.lt_trans hP.2.2 (by decide)
    have hq := q_ix_t hj (n := P.2.2.1) (by omega)
    have hcl : (nI k).toNatClampNeg = k := nI_clamp (by omega)
    refine z_aload_n hJ d_Sx_when_0 0 rfl ?_
    refine z_iload_n hJ d_Sx_when_1 1 rfl ?_
    refine z_callVi hJ m_Sx_isTask k_Sx_132 zL.id d_Sx_when_2 hc_Sx 0 rfl rfl rfl (Nat.le_of_ble_eq_true rfl) ⟨by decide, by decide⟩ ?_
    refine zb_ne hJ d_Sx_when_5 (fun c_5 => ?_) (fun c_5 => False.elim (by rw [hq] at c_5; exact absurd c_5 (by decide)))
    refine z_aload_n hJ d_Sx_when_15 0 rfl ?_
    refine z_get hJ d_Sx_when_16 hc_Sx f_Sx_23 0 rfl rfl (by decide) ?_
    refine z_aload_n hJ d_Sx_when_19 0 rfl ?_
    refine z_get hJ d_Sx_when_20 hc_Sx f_Sx_16 0 rfl rfl (by decide) ?_
    refine z_callVv hJ m_Rd_become k_Sx_182 zL_TP d_Sx_when_23 hc_Rd 20 rfl rfl rfl (Nat.le_of_ble_eq_true rfl) ⟨by decide, by decide⟩ ?_
    refine z_iconst (v := 0) hJ d_Sx_when_26 (by decide) ?_
    refine z_istore_n (lv' := [(0, _), (1, _), (2, _)]) hJ d_Sx_when_27 (by decide) rfl ?_
    have L28 : ∀ j : Nat, j ≤ 61 → q_find (q_mw P k) j (61 - j) = q_find (q_mw P k) 0 61 → J (xW g a f P K (q_it P j) tp ss es kp) 28 [(0, .ref (a 0)), (1, .int (nI k)), (2, .int (nI j))] [] := by
      refine zloop (61) (fun j hjN ih => ?_)
      intro hf
      have hi := q_it_pi hP j
      refine z_iload_n hJ d_Sx_when_28 2 rfl ?_
      refine z_bipush (v := 60) hJ d_Sx_when_29 (by decide) ?_
      refine z_icmp_gt hJ d_Sx_when_31 (fun c_31 => ?_) (fun c_31 => ?_)
      · skip
        have h_31 : 60 < j := by
          have e := nI_ltI (a := 60) (b := j) (by omega) (by omega)
          exact e.mp c_31
        obtain rfl : j = 61 := by omega
        refine z_aload_n hJ d_Sx_when_68 0 rfl ?_
        refine z_ldc hJ d_Sx_when_69 c_Sx_186 ?_
        refine z_callVi hJ m_Sx_tell_3 k_Sx_55 zL.id d_Sx_when_71 hc_Sx 0 rfl rfl rfl (Nat.le_of_ble_eq_true rfl) ⟨by decide, by decide⟩ ?_
        exact z_ri hR d_Sx_when_74 (by
          have e : q_find (q_mw P k) 0 61 = none := by rw [← hf]; rfl
          simp [p_when, hq, hcl, e]) (by
          have e : q_find (q_mw P k) 0 61 = none := by rw [← hf]; rfl
          simp [p_when, hq, hcl, e])
      · skip
        have h_31 : ¬ (60 < j) := by
          have e := nI_ltI (a := 60) (b := j) (by omega) (by omega)
          exact fun q => c_31 (e.mpr q)
        refine z_aload_n hJ d_Sx_when_34 0 rfl ?_
        refine z_get hJ d_Sx_when_35 hc_Sx f_Sx_23 0 rfl rfl (by decide) ?_
        refine z_iload_n hJ d_Sx_when_38 1 rfl ?_
        refine z_aload_n hJ d_Sx_when_39 0 rfl ?_
        refine z_get hJ d_Sx_when_40 hc_Sx f_Sx_23 0 rfl rfl (by decide) ?_
        refine z_callVi hJ (m_Rd_awakeSet (P := q_it P j) hi.1) k_Sx_90 zL_T d_Sx_when_43 hc_Rd 20 rfl rfl rfl (Nat.le_of_ble_eq_true rfl) ⟨by decide, by decide⟩ ?_
        refine z_callVi hJ (m_Rd_isMet (P := q_it P j) hi.1 (by omega) (q_awk_31 hi.1)) k_Sx_153 zL_T d_Sx_when_46 hc_Rd 20 rfl rfl rfl (Nat.le_of_ble_eq_true rfl) ⟨by decide, by decide⟩ ?_
        refine zb_eq hJ d_Sx_when_49 (fun c_49 => ?_) (fun c_49 => ?_)
        · skip
          refine z_aload_n hJ d_Sx_when_54 0 rfl ?_
          refine z_get hJ d_Sx_when_55 hc_Sx f_Sx_23 0 rfl rfl (by decide) ?_
          refine z_iconst (v := 1) hJ d_Sx_when_58 (by decide) ?_
          refine z_callVv hJ (m_Rd_letHoursGo (P := q_it P j) hi.1 (Nat.lt_trans hi.2.2 (by decide))) k_Sx_170 zL_T d_Sx_when_59 hc_Rd 20 rfl rfl rfl (Nat.le_of_ble_eq_true rfl) ⟨by decide, by decide⟩ ?_
          refine z_iinc (v := nI (j + 1)) (lv' := [(0, _), (1, _), (2, _)]) hJ d_Sx_when_62 2 rfl (zinc _) (by decide) rfl ?_
          refine z_goto hJ d_Sx_when_65 ?_
          exact ih (by omega) (by
            rw [← hf, show 61 - j = (61 - (j + 1)) + 1 by omega, q_find, q_mw, c_49]; rfl)
        · skip
          refine z_iload_n hJ d_Sx_when_52 2 rfl ?_
          exact z_ri hR d_Sx_when_53 (by
            have e : q_find (q_mw P k) 0 61 = some j := by rw [← hf, show 61 - j = (60 - j) + 1 by omega, q_find, q_mw, c_49]; rfl
            simp [p_when, hq, hcl, e]) (by
            have e : q_find (q_mw P k) 0 61 = some j := by rw [← hf, show 61 - j = (60 - j) + 1 by omega, q_find, q_mw, c_49]; rfl
            simp [p_when, hq, hcl, e])
    exact L28 0 (Nat.zero_le _) rfl
  · skip
    refine z_aload_n hJ d_Sx_when_0 0 rfl ?_
    refine z_iload_n hJ d_Sx_when_1 1 rfl ?_
    refine z_callVi hJ m_Sx_isTask k_Sx_132 zL.id d_Sx_when_2 hc_Sx 0 rfl rfl rfl (Nat.le_of_ble_eq_true rfl) ⟨by decide, by decide⟩ ?_
    refine zb_ne hJ d_Sx_when_5 (fun c_5 => False.elim (by rw [hq] at c_5; exact absurd c_5 (by decide))) (fun c_5 => ?_)
    refine z_aload_n hJ d_Sx_when_8 0 rfl ?_
    refine z_ldc hJ d_Sx_when_9 c_Sx_54 ?_
    refine z_callVi hJ m_Sx_tell_0 k_Sx_55 zL.id d_Sx_when_11 hc_Sx 0 rfl rfl rfl (Nat.le_of_ble_eq_true rfl) ⟨by decide, by decide⟩ ?_
    exact z_ri hR d_Sx_when_14 (by simp [p_when, hq, c_5]; try rfl) (by simp [p_when, hq, c_5])
set_option maxRecDepth 100000 in
theorem m_Sx_best {g : Nat → Nat → Nat} {a : Nat → Nat} {f : Nat → Int32} {P K T : RS} {tp : TS} {ss : Nat → SS} {es : Nat → Int32} {kp : Bool}  (hP : zPi P) : zM g y_Sx_best b_Sx_best 5 (some .int) 5 [.ref (a 0)] (xW g a f P K T tp ss es kp) [.int (p_best P)] (xW g a f P K (q_it P 61) tp ss es kp) := by
  have hj7 := hP.1
  have hj8 := hP.2.1
  have haw := q_awk_31 hP.1
  have has : P.2.2.2.1 < 2 ^ 31 := Nat.lt_trans hP.2.2 (by decide)
  refine zMi (lv := [(0, .ref (a 0))]) (by decide) (Nat.le_of_ble_eq_true rfl) rfl (fun J hJ hR => ?_)
  refine z_aload_n hJ d_Sx_best_0 0 rfl ?_
  refine z_get hJ d_Sx_best_1 hc_Sx f_Sx_23 0 rfl rfl (by decide) ?_
  refine z_aload_n hJ d_Sx_best_4 0 rfl ?_
  refine z_get hJ d_Sx_best_5 hc_Sx f_Sx_16 0 rfl rfl (by decide) ?_
  refine z_callVv hJ m_Rd_become k_Sx_182 zL_TP d_Sx_best_8 hc_Rd 20 rfl rfl rfl (Nat.le_of_ble_eq_true rfl) ⟨by decide, by decide⟩ ?_
  refine z_iconst (v := 0) hJ d_Sx_best_11 (by decide) ?_
  refine z_istore_n (lv' := [(0, _), (1, _)]) hJ d_Sx_best_12 (by decide) rfl ?_
  refine z_iconst (v := (-1)) hJ d_Sx_best_13 (by decide) ?_
  refine z_istore_n (lv' := [(0, _), (1, _), (2, _)]) hJ d_Sx_best_14 (by decide) rfl ?_
  refine z_iconst (v := 0) hJ d_Sx_best_15 (by decide) ?_
  refine z_istore_n (lv' := [(0, _), (1, _), (2, _), (3, _)]) hJ d_Sx_best_16 (by decide) rfl ?_
  have L17 : ∀ j : Nat, j ≤ 61 → J (xW g a f P K (q_it P j) tp ss es kp) 17 [(0, .ref (a 0)), (1, .int (nI (q_bst (q_ew P) j).1)), (2, .int (q_bst (q_ew P) j).2), (3, .int (nI j))] [] := by
    refine zloop (61) (fun j hjN ih => ?_)
    have hi := q_it_pi hP j
    refine z_iload_n hJ d_Sx_best_17 3 rfl ?_
    refine z_bipush (v := 60) hJ d_Sx_best_18 (by decide) ?_
    refine z_icmp_gt hJ d_Sx_best_20 (fun c_20 => ?_) (fun c_20 => ?_)
    · skip
      have h_20 : 60 < j := by
        have e := nI_ltI (a := 60) (b := j) (by omega) (by omega)
        exact e.mp c_20
      obtain rfl : j = 61 := by omega
      refine z_iload_n hJ d_Sx_best_64 1 rfl ?_
      exact z_ri hR d_Sx_best_65 rfl rfl
    · skip
      have h_20 : ¬ (60 < j) := by
        have e := nI_ltI (a := 60) (b := j) (by omega) (by omega)
        exact fun q => c_20 (e.mpr q)
      refine z_aload_n hJ d_Sx_best_23 0 rfl ?_
      refine z_get hJ d_Sx_best_24 hc_Sx f_Sx_23 0 rfl rfl (by decide) ?_
      refine z_aload_n hJ d_Sx_best_27 0 rfl ?_
      refine z_get hJ d_Sx_best_28 hc_Sx f_Sx_23 0 rfl rfl (by decide) ?_
      refine z_callVi hJ (m_Rd_awakeSet (P := q_it P j) hi.1) k_Sx_90 zL_T d_Sx_best_31 hc_Rd 20 rfl rfl rfl (Nat.le_of_ble_eq_true rfl) ⟨by decide, by decide⟩ ?_
      refine z_callVi hJ (m_Rd_earned (P := q_it P j) hi.1 hi.2.1 (q_awk_31 hi.1)) k_Sx_173 zL_T d_Sx_best_34 hc_Rd 20 rfl rfl rfl (Nat.le_of_ble_eq_true rfl) ⟨by decide, by decide⟩ ?_
      refine z_istore (lv' := [(0, _), (1, _), (2, _), (3, _), (4, _)]) hJ d_Sx_best_37 (by decide) rfl ?_
      refine z_iload hJ d_Sx_best_39 4 rfl ?_
      refine z_iload_n hJ d_Sx_best_41 2 rfl ?_
      refine z_icmp_le hJ d_Sx_best_42 (fun c_42 => ?_) (fun c_42 => ?_)
      · skip
        refine z_aload_n hJ d_Sx_best_50 0 rfl ?_
        refine z_get hJ d_Sx_best_51 hc_Sx f_Sx_23 0 rfl rfl (by decide) ?_
        refine z_iconst (v := 1) hJ d_Sx_best_54 (by decide) ?_
        refine z_callVv hJ (m_Rd_letHoursGo (P := q_it P j) hi.1 (Nat.lt_trans hi.2.2 (by decide))) k_Sx_170 zL_T d_Sx_best_55 hc_Rd 20 rfl rfl rfl (Nat.le_of_ble_eq_true rfl) ⟨by decide, by decide⟩ ?_
        refine z_iinc (v := nI (j + 1)) (lv' := [(0, _), (1, _), (2, _), (3, _), (4, _)]) hJ d_Sx_best_58 3 rfl (zinc _) (by decide) rfl ?_
        refine z_goto hJ d_Sx_best_61 ?_
        refine z_drop hJ [0, 1, 2, 3] rfl ?_
        have e := ih (by omega)
        rw [q_bst_f (e := q_ew P) c_42] at e
        exact e
      · skip
        refine z_iload hJ d_Sx_best_45 4 rfl ?_
        refine z_istore_n (lv' := [(0, _), (1, _), (2, _), (3, _), (4, _)]) hJ d_Sx_best_47 (by decide) rfl ?_
        refine z_iload_n hJ d_Sx_best_48 3 rfl ?_
        refine z_istore_n (lv' := [(0, _), (1, _), (2, _), (3, _), (4, _)]) hJ d_Sx_best_49 (by decide) rfl ?_
        refine z_aload_n hJ d_Sx_best_50 0 rfl ?_
        refine z_get hJ d_Sx_best_51 hc_Sx f_Sx_23 0 rfl rfl (by decide) ?_
        refine z_iconst (v := 1) hJ d_Sx_best_54 (by decide) ?_
        refine z_callVv hJ (m_Rd_letHoursGo (P := q_it P j) hi.1 (Nat.lt_trans hi.2.2 (by decide))) k_Sx_170 zL_T d_Sx_best_55 hc_Rd 20 rfl rfl rfl (Nat.le_of_ble_eq_true rfl) ⟨by decide, by decide⟩ ?_
        refine z_iinc (v := nI (j + 1)) (lv' := [(0, _), (1, _), (2, _), (3, _), (4, _)]) hJ d_Sx_best_58 3 rfl (zinc _) (by decide) rfl ?_
        refine z_goto hJ d_Sx_best_61 ?_
        refine z_drop hJ [0, 1, 2, 3] rfl ?_
        have e := ih (by omega)
        rw [q_bst_t (e := q_ew P) c_42] at e
        exact e
  exact L17 0 (Nat.zero_le _)
set_option maxRecDepth 100000 in
theorem m_Sx_bestValue_m {g : Nat → Nat → Nat} {a : Nat → Nat} {f : Nat → Int32} {P K T : RS} {tp : TS} {ss : Nat → SS} {es : Nat → Int32} {kp : Bool} {i l : Nat} (hT : zPi T) (hi : i < 7) (hl : l ≤ 30) : zM g y_Sx_bestValue b_Sx_bestValue 8 (some .int) 5 [.ref (a 0), .ref (a 22), .int (nI i), .int (nI l)] (xW g a f P K T tp ss es kp) [.int (nI (q_bst (q_eM T i) (l + 1)).1)] (xW g a f P K (q_setM T i (nI l)) tp ss es kp) := by
  refine zMi (lv := [(0, .ref (a 0)), (1, .ref (a 22)), (2, .int (nI i)), (3, .int (nI l))]) (by decide) (Nat.le_of_ble_eq_true rfl) rfl (fun J hJ hR => ?_)
  refine z_iconst (v := 0) hJ d_Sx_bestValue_0 (by decide) ?_
  refine z_istore (lv' := [(0, _), (1, _), (2, _), (3, _), (4, _)]) hJ d_Sx_bestValue_1 (by decide) rfl ?_
  refine z_iconst (v := (-1)) hJ d_Sx_bestValue_3 (by decide) ?_
  refine z_istore (lv' := [(0, _), (1, _), (2, _), (3, _), (4, _), (5, _)]) hJ d_Sx_bestValue_4 (by decide) rfl ?_
  refine z_iconst (v := 0) hJ d_Sx_bestValue_6 (by decide) ?_
  refine z_istore (lv' := [(0, _), (1, _), (2, _), (3, _), (4, _), (5, _), (6, _)]) hJ d_Sx_bestValue_7 (by decide) rfl ?_
  have L9 : ∀ j : Nat, j ≤ l + 1 → J (xW g a f P K (T.1, T.2.1, T.2.2.1, T.2.2.2.1, T.2.2.2.2.1, q_sv (rm T) i j, T.2.2.2.2.2.2.1, T.2.2.2.2.2.2.2.1, T.2.2.2.2.2.2.2.2.1, T.2.2.2.2.2.2.2.2.2.1, T.2.2.2.2.2.2.2.2.2.2.1, T.2.2.2.2.2.2.2.2.2.2.2) tp ss es kp) 9 [(0, .ref (a 0)), (1, .ref (a 22)), (2, .int (nI i)), (3, .int (nI l)), (4, .int (nI (q_bst (q_eM T i) j).1)), (5, .int (q_bst (q_eM T i) j).2), (6, .int (nI j))] [] := by
    refine zloop (l + 1) (fun j hjN ih => ?_)
    refine z_iload hJ d_Sx_bestValue_9 6 rfl ?_
    refine z_iload_n hJ d_Sx_bestValue_11 3 rfl ?_
    refine z_icmp_gt hJ d_Sx_bestValue_12 (fun c_12 => ?_) (fun c_12 => ?_)
    · skip
      try dsimp only at c_12
      have h_12 : l < j := by
        have e := nI_ltI (a := l) (b := j) (by omega) (by omega)
        exact e.mp c_12
      obtain rfl : j = l + 1 := by omega
      refine z_iload hJ d_Sx_bestValue_57 4 rfl ?_
      exact z_ri hR d_Sx_bestValue_59 rfl rfl
    · skip
      try dsimp only at c_12
      have h_12 : ¬ (l < j) := by
        have e := nI_ltI (a := l) (b := j) (by omega) (by omega)
        exact fun q => c_12 (e.mpr q)
      refine z_aload_n hJ d_Sx_bestValue_15 1 rfl ?_
      refine z_iload_n hJ d_Sx_bestValue_16 2 rfl ?_
      refine z_iload hJ d_Sx_bestValue_17 6 rfl ?_
      refine z_iast (w' := xW g a f P K (T.1, T.2.1, T.2.2.1, T.2.2.2.1, T.2.2.2.2.1, upd (q_sv (rm T) i j) (i) (nI j), T.2.2.2.2.2.2.1, T.2.2.2.2.2.2.2.1, T.2.2.2.2.2.2.2.2.1, T.2.2.2.2.2.2.2.2.2.1, T.2.2.2.2.2.2.2.2.2.2.1, T.2.2.2.2.2.2.2.2.2.2.2) tp ss es kp) hJ d_Sx_bestValue_19 22 (i) rfl rfl (by omega) (by decide) rfl ?_
      refine z_w (w' := xW g a f P K (T.1, T.2.1, T.2.2.1, T.2.2.2.1, T.2.2.2.2.1, upd (rm T) i (nI j), T.2.2.2.2.2.2.1, T.2.2.2.2.2.2.2.1, T.2.2.2.2.2.2.2.2.1, T.2.2.2.2.2.2.2.2.2.1, T.2.2.2.2.2.2.2.2.2.2.1, T.2.2.2.2.2.2.2.2.2.2.2) tp ss es kp) (by rw [q_sv_s]) ?_
      refine z_aload_n hJ d_Sx_bestValue_20 0 rfl ?_
      refine z_get hJ d_Sx_bestValue_21 hc_Sx f_Sx_23 0 rfl rfl (by decide) ?_
      refine z_aload_n hJ d_Sx_bestValue_24 0 rfl ?_
      refine z_get hJ d_Sx_bestValue_25 hc_Sx f_Sx_23 0 rfl rfl (by decide) ?_
      refine z_callVi hJ (m_Rd_awakeSet (P := q_setM T i (nI j)) hT.1) k_Sx_90 zL_T d_Sx_bestValue_28 hc_Rd 20 rfl rfl rfl (Nat.le_of_ble_eq_true rfl) ⟨by decide, by decide⟩ ?_
      refine z_callVi hJ (m_Rd_earned (P := q_setM T i (nI j)) hT.1 hT.2.1 (q_awk_31 hT.1)) k_Sx_173 zL_T d_Sx_bestValue_31 hc_Rd 20 rfl rfl rfl (Nat.le_of_ble_eq_true rfl) ⟨by decide, by decide⟩ ?_
      refine z_istore (lv' := [(0, _), (1, _), (2, _), (3, _), (4, _), (5, _), (6, _), (7, _)]) hJ d_Sx_bestValue_34 (by decide) rfl ?_
      refine z_iload hJ d_Sx_bestValue_36 7 rfl ?_
      refine z_iload hJ d_Sx_bestValue_38 5 rfl ?_
      refine z_icmp_le hJ d_Sx_bestValue_40 (fun c_40 => ?_) (fun c_40 => ?_)
      · skip
        try dsimp only at c_40
        refine z_iinc (v := nI (j + 1)) (lv' := [(0, _), (1, _), (2, _), (3, _), (4, _), (5, _), (6, _), (7, _)]) hJ d_Sx_bestValue_51 6 rfl (zinc _) (by decide) rfl ?_
        refine z_goto hJ d_Sx_bestValue_54 ?_
        refine z_drop hJ [0, 1, 2, 3, 4, 5, 6] rfl ?_
        have e := ih (by omega)
        rw [q_bst_f (e := q_eM T i) c_40] at e
        exact e
      · skip
        try dsimp only at c_40
        refine z_iload hJ d_Sx_bestValue_43 7 rfl ?_
        refine z_istore (lv' := [(0, _), (1, _), (2, _), (3, _), (4, _), (5, _), (6, _), (7, _)]) hJ d_Sx_bestValue_45 (by decide) rfl ?_
        refine z_iload hJ d_Sx_bestValue_47 6 rfl ?_
        refine z_istore (lv' := [(0, _), (1, _), (2, _), (3, _), (4, _), (5, _), (6, _), (7, _)]) hJ d_Sx_bestValue_49 (by decide) rfl ?_
        refine z_iinc (v := nI (j + 1)) (lv' := [(0, _), (1, _), (2, _), (3, _), (4, _), (5, _), (6, _), (7, _)]) hJ d_Sx_bestValue_51 6 rfl (zinc _) (by decide) rfl ?_
        refine z_goto hJ d_Sx_bestValue_54 ?_
        refine z_drop hJ [0, 1, 2, 3, 4, 5, 6] rfl ?_
        have e := ih (by omega)
        rw [q_bst_t (e := q_eM T i) c_40] at e
        exact e
  exact L9 0 (Nat.zero_le _)
set_option maxRecDepth 100000 in
theorem m_Sx_bestValue_k {g : Nat → Nat → Nat} {a : Nat → Nat} {f : Nat → Int32} {P K T : RS} {tp : TS} {ss : Nat → SS} {es : Nat → Int32} {kp : Bool} {i l : Nat} (hT : zPi T) (hi : i < 7) (hl : l ≤ 30) : zM g y_Sx_bestValue b_Sx_bestValue 8 (some .int) 5 [.ref (a 0), .ref (a 21), .int (nI i), .int (nI l)] (xW g a f P K T tp ss es kp) [.int (nI (q_bst (q_eK T i) (l + 1)).1)] (xW g a f P K (q_setK T i (nI l)) tp ss es kp) := by
  refine zMi (lv := [(0, .ref (a 0)), (1, .ref (a 21)), (2, .int (nI i)), (3, .int (nI l))]) (by decide) (Nat.le_of_ble_eq_true rfl) rfl (fun J hJ hR => ?_)
  refine z_iconst (v := 0) hJ d_Sx_bestValue_0 (by decide) ?_
  refine z_istore (lv' := [(0, _), (1, _), (2, _), (3, _), (4, _)]) hJ d_Sx_bestValue_1 (by decide) rfl ?_
  refine z_iconst (v := (-1)) hJ d_Sx_bestValue_3 (by decide) ?_
  refine z_istore (lv' := [(0, _), (1, _), (2, _), (3, _), (4, _), (5, _)]) hJ d_Sx_bestValue_4 (by decide) rfl ?_
  refine z_iconst (v := 0) hJ d_Sx_bestValue_6 (by decide) ?_
  refine z_istore (lv' := [(0, _), (1, _), (2, _), (3, _), (4, _), (5, _), (6, _)]) hJ d_Sx_bestValue_7 (by decide) rfl ?_
  have L9 : ∀ j : Nat, j ≤ l + 1 → J (xW g a f P K (T.1, T.2.1, T.2.2.1, T.2.2.2.1, q_sv (rk T) i j, T.2.2.2.2.2.1, T.2.2.2.2.2.2.1, T.2.2.2.2.2.2.2.1, T.2.2.2.2.2.2.2.2.1, T.2.2.2.2.2.2.2.2.2.1, T.2.2.2.2.2.2.2.2.2.2.1, T.2.2.2.2.2.2.2.2.2.2.2) tp ss es kp) 9 [(0, .ref (a 0)), (1, .ref (a 21)), (2, .int (nI i)), (3, .int (nI l)), (4, .int (nI (q_bst (q_eK T i) j).1)), (5, .int (q_bst (q_eK T i) j).2), (6, .int (nI j))] [] := by
    refine zloop (l + 1) (fun j hjN ih => ?_)
    refine z_iload hJ d_Sx_bestValue_9 6 rfl ?_
    refine z_iload_n hJ d_Sx_bestValue_11 3 rfl ?_
    refine z_icmp_gt hJ d_Sx_bestValue_12 (fun c_12 => ?_) (fun c_12 => ?_)
    · skip
      try dsimp only at c_12
      have h_12 : l < j := by
        have e := nI_ltI (a := l) (b := j) (by omega) (by omega)
        exact e.mp c_12
      obtain rfl : j = l + 1 := by omega
      refine z_iload hJ d_Sx_bestValue_57 4 rfl ?_
      exact z_ri hR d_Sx_bestValue_59 rfl rfl
    · skip
      try dsimp only at c_12
      have h_12 : ¬ (l < j) := by
        have e := nI_ltI (a := l) (b := j) (by omega) (by omega)
        exact fun q => c_12 (e.mpr q)
      refine z_aload_n hJ d_Sx_bestValue_15 1 rfl ?_
      refine z_iload_n hJ d_Sx_bestValue_16 2 rfl ?_
      refine z_iload hJ d_Sx_bestValue_17 6 rfl ?_
      refine z_iast (w' := xW g a f P K (T.1, T.2.1, T.2.2.1, T.2.2.2.1, upd (q_sv (rk T) i j) (i) (nI j), T.2.2.2.2.2.1, T.2.2.2.2.2.2.1, T.2.2.2.2.2.2.2.1, T.2.2.2.2.2.2.2.2.1, T.2.2.2.2.2.2.2.2.2.1, T.2.2.2.2.2.2.2.2.2.2.1, T.2.2.2.2.2.2.2.2.2.2.2) tp ss es kp) hJ d_Sx_bestValue_19 21 (i) rfl rfl (by omega) (by decide) rfl ?_
      refine z_w (w' := xW g a f P K (T.1, T.2.1, T.2.2.1, T.2.2.2.1, upd (rk T) i (nI j), T.2.2.2.2.2.1, T.2.2.2.2.2.2.1, T.2.2.2.2.2.2.2.1, T.2.2.2.2.2.2.2.2.1, T.2.2.2.2.2.2.2.2.2.1, T.2.2.2.2.2.2.2.2.2.2.1, T.2.2.2.2.2.2.2.2.2.2.2) tp ss es kp) (by rw [q_sv_s]) ?_
      refine z_aload_n hJ d_Sx_bestValue_20 0 rfl ?_
      refine z_get hJ d_Sx_bestValue_21 hc_Sx f_Sx_23 0 rfl rfl (by decide) ?_
      refine z_aload_n hJ d_Sx_bestValue_24 0 rfl ?_
      refine z_get hJ d_Sx_bestValue_25 hc_Sx f_Sx_23 0 rfl rfl (by decide) ?_
      refine z_callVi hJ (m_Rd_awakeSet (P := q_setK T i (nI j)) hT.1) k_Sx_90 zL_T d_Sx_bestValue_28 hc_Rd 20 rfl rfl rfl (Nat.le_of_ble_eq_true rfl) ⟨by decide, by decide⟩ ?_
      refine z_callVi hJ (m_Rd_earned (P := q_setK T i (nI j)) hT.1 hT.2.1 (q_awk_31 hT.1)) k_Sx_173 zL_T d_Sx_bestValue_31 hc_Rd 20 rfl rfl rfl (Nat.le_of_ble_eq_true rfl) ⟨by decide, by decide⟩ ?_
      refine z_istore (lv' := [(0, _), (1, _), (2, _), (3, _), (4, _), (5, _), (6, _), (7, _)]) hJ d_Sx_bestValue_34 (by decide) rfl ?_
      refine z_iload hJ d_Sx_bestValue_36 7 rfl ?_
      refine z_iload hJ d_Sx_bestValue_38 5 rfl ?_
      refine z_icmp_le hJ d_Sx_bestValue_40 (fun c_40 => ?_) (fun c_40 => ?_)
      · skip
        try dsimp only at c_40
        refine z_iinc (v := nI (j + 1)) (lv' := [(0, _), (1, _), (2, _), (3, _), (4, _), (5, _), (6, _), (7, _)]) hJ d_Sx_bestValue_51 6 rfl (zinc _) (by decide) rfl ?_
        refine z_goto hJ d_Sx_bestValue_54 ?_
        refine z_drop hJ [0, 1, 2, 3, 4, 5, 6] rfl ?_
        have e := ih (by omega)
        rw [q_bst_f (e := q_eK T i) c_40] at e
        exact e
      · skip
        try dsimp only at c_40
        refine z_iload hJ d_Sx_bestValue_43 7 rfl ?_
        refine z_istore (lv' := [(0, _), (1, _), (2, _), (3, _), (4, _), (5, _), (6, _), (7, _)]) hJ d_Sx_bestValue_45 (by decide) rfl ?_
        refine z_iload hJ d_Sx_bestValue_47 6 rfl ?_
        refine z_istore (lv' := [(0, _), (1, _), (2, _), (3, _), (4, _), (5, _), (6, _), (7, _)]) hJ d_Sx_bestValue_49 (by decide) rfl ?_
        refine z_iinc (v := nI (j + 1)) (lv' := [(0, _), (1, _), (2, _), (3, _), (4, _), (5, _), (6, _), (7, _)]) hJ d_Sx_bestValue_51 6 rfl (zinc _) (by decide) rfl ?_
        refine z_goto hJ d_Sx_bestValue_54 ?_
        refine z_drop hJ [0, 1, 2, 3, 4, 5, 6] rfl ?_
        have e := ih (by omega)
        rw [q_bst_t (e := q_eK T i) c_40] at e
        exact e
  exact L9 0 (Nat.zero_le _)
set_option maxRecDepth 100000 in
theorem m_Sx_stand {g : Nat → Nat → Nat} {a : Nat → Nat} {f : Nat → Int32} {P K T : RS} {tp : TS} {ss : Nat → SS} {es : Nat → Int32} {kp : Bool} {i : Int32} (hP : zPi P) : zM g y_Sx_stand b_Sx_stand 2 (some .int) 6 [.ref (a 0), .int i] (xW g a f P K T tp ss es kp) [.int (p_stand f P T i).1] (xW g a (p_stand f P T i).2.1 P K (p_stand f P T i).2.2 tp ss es kp) := by
  refine zMi (lv := [(0, .ref (a 0)), (1, .int i)]) (by decide) (Nat.le_of_ble_eq_true rfl) rfl (fun J hJ hR => ?_)
  rcases q_ix_or i (n := P.2.1) (by first | exact Nat.le_trans hP.1 (by decide) | exact hP.2.1) with ⟨j, hj, rfl⟩ | hq
  · have hj7 := hP.1
    have hj8 := hP.2.1
    have haw := q_awk_31 hP.1
    have has : P.2.2.2.1 < 2 ^ 31 := Nat.lt_trans hP.2.2 (by decide)
    have hq := q_ix_t hj (n := P.2.1) (by omega)
    have hcl : (nI j).toNatClampNeg = j := nI_clamp (by omega)
    refine z_aload_n hJ d_Sx_stand_0 0 rfl ?_
    refine z_iload_n hJ d_Sx_stand_1 1 rfl ?_
    refine z_callVi hJ m_Sx_isFellow k_Sx_68 zL.id d_Sx_stand_2 hc_Sx 0 rfl rfl rfl (Nat.le_of_ble_eq_true rfl) ⟨by decide, by decide⟩ ?_
    refine zb_ne hJ d_Sx_stand_5 (fun c_5 => ?_) (fun c_5 => False.elim (by rw [hq] at c_5; exact absurd c_5 (by decide)))
    refine z_aload_n hJ d_Sx_stand_15 0 rfl ?_
    refine z_get hJ d_Sx_stand_16 hc_Sx f_Sx_23 0 rfl rfl (by decide) ?_
    refine z_aload_n hJ d_Sx_stand_19 0 rfl ?_
    refine z_get hJ d_Sx_stand_20 hc_Sx f_Sx_16 0 rfl rfl (by decide) ?_
    refine z_callVv hJ m_Rd_become k_Sx_182 zL_TP d_Sx_stand_23 hc_Rd 20 rfl rfl rfl (Nat.le_of_ble_eq_true rfl) ⟨by decide, by decide⟩ ?_
    refine z_aload_n hJ d_Sx_stand_26 0 rfl ?_
    refine z_aload_n hJ d_Sx_stand_27 0 rfl ?_
    refine z_get hJ d_Sx_stand_28 hc_Sx f_Sx_23 0 rfl rfl (by decide) ?_
    refine z_get hJ d_Sx_stand_31 hc_Rd f_Sx_74 20 rfl rfl (by decide) ?_
    refine z_iload_n hJ d_Sx_stand_34 1 rfl ?_
    refine z_bipush (v := 30) hJ d_Sx_stand_35 (by decide) ?_
    refine z_callVi hJ (m_Sx_bestValue_m (l := 30) hP (by omega) (by decide)) k_Sx_187 zL.id d_Sx_stand_37 hc_Sx 0 rfl rfl rfl (Nat.le_of_ble_eq_true rfl) ⟨by decide, by decide⟩ ?_
    exact z_ri hR d_Sx_stand_40 (by simp [p_stand, hq, hcl]) (by simp [p_stand, hq, hcl]; try rfl)
  · skip
    refine z_aload_n hJ d_Sx_stand_0 0 rfl ?_
    refine z_iload_n hJ d_Sx_stand_1 1 rfl ?_
    refine z_callVi hJ m_Sx_isFellow k_Sx_68 zL.id d_Sx_stand_2 hc_Sx 0 rfl rfl rfl (Nat.le_of_ble_eq_true rfl) ⟨by decide, by decide⟩ ?_
    refine zb_ne hJ d_Sx_stand_5 (fun c_5 => False.elim (by rw [hq] at c_5; exact absurd c_5 (by decide))) (fun c_5 => ?_)
    refine z_aload_n hJ d_Sx_stand_8 0 rfl ?_
    refine z_ldc hJ d_Sx_stand_9 c_Sx_54 ?_
    refine z_callVi hJ m_Sx_tell_0 k_Sx_55 zL.id d_Sx_stand_11 hc_Sx 0 rfl rfl rfl (Nat.le_of_ble_eq_true rfl) ⟨by decide, by decide⟩ ?_
    exact z_ri hR d_Sx_stand_14 (by simp [p_stand, hq, c_5]; try rfl) (by simp [p_stand, hq, c_5])
set_option maxRecDepth 100000 in
theorem m_Sx_kind {g : Nat → Nat → Nat} {a : Nat → Nat} {f : Nat → Int32} {P K T : RS} {tp : TS} {ss : Nat → SS} {es : Nat → Int32} {kp : Bool} {i : Int32} (hP : zPi P) : zM g y_Sx_kind b_Sx_kind 2 (some .int) 6 [.ref (a 0), .int i] (xW g a f P K T tp ss es kp) [.int (p_kind f P T i).1] (xW g a (p_kind f P T i).2.1 P K (p_kind f P T i).2.2 tp ss es kp) := by
  refine zMi (lv := [(0, .ref (a 0)), (1, .int i)]) (by decide) (Nat.le_of_ble_eq_true rfl) rfl (fun J hJ hR => ?_)
  rcases q_ix_or i (n := P.2.1) (by first | exact Nat.le_trans hP.1 (by decide) | exact hP.2.1) with ⟨j, hj, rfl⟩ | hq
  · have hj7 := hP.1
    have hj8 := hP.2.1
    have haw := q_awk_31 hP.1
    have has : P.2.2.2.1 < 2 ^ 31 := Nat.lt_trans hP.2.2 (by decide)
    have hq := q_ix_t hj (n := P.2.1) (by omega)
    have hcl : (nI j).toNatClampNeg = j := nI_clamp (by omega)
    refine z_aload_n hJ d_Sx_kind_0 0 rfl ?_
    refine z_iload_n hJ d_Sx_kind_1 1 rfl ?_
    refine z_callVi hJ m_Sx_isFellow k_Sx_68 zL.id d_Sx_kind_2 hc_Sx 0 rfl rfl rfl (Nat.le_of_ble_eq_true rfl) ⟨by decide, by decide⟩ ?_
    refine zb_ne hJ d_Sx_kind_5 (fun c_5 => ?_) (fun c_5 => False.elim (by rw [hq] at c_5; exact absurd c_5 (by decide)))
    refine z_aload_n hJ d_Sx_kind_15 0 rfl ?_
    refine z_get hJ d_Sx_kind_16 hc_Sx f_Sx_23 0 rfl rfl (by decide) ?_
    refine z_aload_n hJ d_Sx_kind_19 0 rfl ?_
    refine z_get hJ d_Sx_kind_20 hc_Sx f_Sx_16 0 rfl rfl (by decide) ?_
    refine z_callVv hJ m_Rd_become k_Sx_182 zL_TP d_Sx_kind_23 hc_Rd 20 rfl rfl rfl (Nat.le_of_ble_eq_true rfl) ⟨by decide, by decide⟩ ?_
    refine z_aload_n hJ d_Sx_kind_26 0 rfl ?_
    refine z_aload_n hJ d_Sx_kind_27 0 rfl ?_
    refine z_get hJ d_Sx_kind_28 hc_Sx f_Sx_23 0 rfl rfl (by decide) ?_
    refine z_get hJ d_Sx_kind_31 hc_Rd f_Sx_71 20 rfl rfl (by decide) ?_
    refine z_iload_n hJ d_Sx_kind_34 1 rfl ?_
    refine z_iconst (v := 5) hJ d_Sx_kind_35 (by decide) ?_
    refine z_callVi hJ (m_Sx_bestValue_k (l := 5) hP (by omega) (by decide)) k_Sx_187 zL.id d_Sx_kind_36 hc_Sx 0 rfl rfl rfl (Nat.le_of_ble_eq_true rfl) ⟨by decide, by decide⟩ ?_
    exact z_ri hR d_Sx_kind_39 (by simp [p_kind, hq, hcl]) (by simp [p_kind, hq, hcl]; try rfl)
  · skip
    refine z_aload_n hJ d_Sx_kind_0 0 rfl ?_
    refine z_iload_n hJ d_Sx_kind_1 1 rfl ?_
    refine z_callVi hJ m_Sx_isFellow k_Sx_68 zL.id d_Sx_kind_2 hc_Sx 0 rfl rfl rfl (Nat.le_of_ble_eq_true rfl) ⟨by decide, by decide⟩ ?_
    refine zb_ne hJ d_Sx_kind_5 (fun c_5 => False.elim (by rw [hq] at c_5; exact absurd c_5 (by decide))) (fun c_5 => ?_)
    refine z_aload_n hJ d_Sx_kind_8 0 rfl ?_
    refine z_ldc hJ d_Sx_kind_9 c_Sx_54 ?_
    refine z_callVi hJ m_Sx_tell_0 k_Sx_55 zL.id d_Sx_kind_11 hc_Sx 0 rfl rfl rfl (Nat.le_of_ble_eq_true rfl) ⟨by decide, by decide⟩ ?_
    exact z_ri hR d_Sx_kind_14 (by simp [p_kind, hq, c_5]; try rfl) (by simp [p_kind, hq, c_5])
set_option maxRecDepth 100000 in
theorem m_Sx_bestSet {g : Nat → Nat → Nat} {a : Nat → Nat} {f : Nat → Int32} {P K T : RS} {tp : TS} {ss : Nat → SS} {es : Nat → Int32} {kp : Bool}  (hP : zPi P) : zM g y_Sx_bestSet b_Sx_bestSet 7 (some .int) 5 [.ref (a 0)] (xW g a f P K T tp ss es kp) [.int (nI (q_best P))] (xW g a f P K T tp ss es kp) := by
  have hj7 := hP.1
  have hj8 := hP.2.1
  have haw := q_awk_31 hP.1
  have has : P.2.2.2.1 < 2 ^ 31 := Nat.lt_trans hP.2.2 (by decide)
  have ha7 := q_awk_128 hP.1
  refine zMi (lv := [(0, .ref (a 0))]) (by decide) (Nat.le_of_ble_eq_true rfl) rfl (fun J hJ hR => ?_)
  refine z_aload_n hJ d_Sx_bestSet_0 0 rfl ?_
  refine z_get hJ d_Sx_bestSet_1 hc_Sx f_Sx_16 0 rfl rfl (by decide) ?_
  refine z_callVi hJ (m_Rd_awakeSet hP.1) k_Sx_90 zL_P d_Sx_bestSet_4 hc_Rd 2 rfl rfl rfl (Nat.le_of_ble_eq_true rfl) ⟨by decide, by decide⟩ ?_
  refine z_istore_n (lv' := [(0, _), (1, _)]) hJ d_Sx_bestSet_7 (by decide) rfl ?_
  refine z_iconst (v := 0) hJ d_Sx_bestSet_8 (by decide) ?_
  refine z_istore_n (lv' := [(0, _), (1, _), (2, _)]) hJ d_Sx_bestSet_9 (by decide) rfl ?_
  refine z_iconst (v := (-1)) hJ d_Sx_bestSet_10 (by decide) ?_
  refine z_istore_n (lv' := [(0, _), (1, _), (2, _), (3, _)]) hJ d_Sx_bestSet_11 (by decide) rfl ?_
  refine z_iconst (v := 0) hJ d_Sx_bestSet_12 (by decide) ?_
  refine z_istore (lv' := [(0, _), (1, _), (2, _), (3, _), (4, _)]) hJ d_Sx_bestSet_13 (by decide) rfl ?_
  have L15 : ∀ j : Nat, j ≤ q_awk P + 1 → J (xW g a f P K T tp ss es kp) 15 [(0, .ref (a 0)), (1, .int (nI (q_awk P))), (2, .int (nI (q_bs (q_earn P) (q_awk P) j).1)), (3, .int (q_bs (q_earn P) (q_awk P) j).2), (4, .int (nI j))] [] := by
    refine zloop (q_awk P + 1) (fun j hjN ih => ?_)
    refine z_iload hJ d_Sx_bestSet_15 4 rfl ?_
    refine z_iload_n hJ d_Sx_bestSet_17 1 rfl ?_
    refine z_icmp_gt hJ d_Sx_bestSet_18 (fun c_18 => ?_) (fun c_18 => ?_)
    · skip
      have h_18 : (q_awk P) < j := by
        have e := nI_ltI (a := (q_awk P)) (b := j) (by omega) (by omega)
        exact e.mp c_18
      obtain rfl : j = q_awk P + 1 := by omega
      refine z_iload_n hJ d_Sx_bestSet_92 2 rfl ?_
      exact z_ri hR d_Sx_bestSet_93 rfl rfl
    · skip
      have h_18 : ¬ ((q_awk P) < j) := by
        have e := nI_ltI (a := (q_awk P)) (b := j) (by omega) (by omega)
        exact fun q => c_18 (e.mpr q)
      have hjl : j &&& q_awk P ≤ j := Nat.and_le_left
      refine z_iload hJ d_Sx_bestSet_21 4 rfl ?_
      refine z_iload_n hJ d_Sx_bestSet_23 1 rfl ?_
      refine z_iand hJ d_Sx_bestSet_24 ?_
      refine z_c (y := nI (j &&& q_awk P)) (zand _ _) ?_
      refine z_iload hJ d_Sx_bestSet_25 4 rfl ?_
      refine z_icmp_eq hJ d_Sx_bestSet_27 (fun c_27 => ?_) (fun c_27 => ?_)
      · skip
        have h_27 : (j &&& q_awk P) = j := by
          have e := nI_eq (a := (j &&& q_awk P)) (b := j) (by omega) (by omega)
          exact e.mp c_27
        refine z_aload_n hJ d_Sx_bestSet_33 0 rfl ?_
        refine z_get hJ d_Sx_bestSet_34 hc_Sx f_Sx_16 0 rfl rfl (by decide) ?_
        refine z_iload hJ d_Sx_bestSet_37 4 rfl ?_
        refine z_callVi hJ (m_Rd_earned hP.1 hP.2.1 (by omega)) k_Sx_173 zL_P d_Sx_bestSet_39 hc_Rd 2 rfl rfl rfl (Nat.le_of_ble_eq_true rfl) ⟨by decide, by decide⟩ ?_
        refine z_istore (lv' := [(0, _), (1, _), (2, _), (3, _), (4, _), (5, _)]) hJ d_Sx_bestSet_42 (by decide) rfl ?_
        refine z_iload hJ d_Sx_bestSet_44 4 rfl ?_
        refine z_callSi hJ m_In_bitCount k_Sx_194 zL.nil d_Sx_bestSet_46 rfl rfl (Nat.le_of_ble_eq_true rfl) ⟨by decide, by decide⟩ ?_
        refine z_iload_n hJ d_Sx_bestSet_49 2 rfl ?_
        refine z_callSi hJ m_In_bitCount k_Sx_194 zL.nil d_Sx_bestSet_50 rfl rfl (Nat.le_of_ble_eq_true rfl) ⟨by decide, by decide⟩ ?_
        refine z_icmp_ge hJ d_Sx_bestSet_53 (fun c_53 => ?_) (fun c_53 => ?_)
        · skip
          refine z_iconst (v := 0) hJ d_Sx_bestSet_60 (by decide) ?_
          refine z_istore (lv' := [(0, _), (1, _), (2, _), (3, _), (4, _), (5, _), (6, _)]) hJ d_Sx_bestSet_61 (by decide) rfl ?_
          refine z_iload hJ d_Sx_bestSet_63 5 rfl ?_
          refine z_iload_n hJ d_Sx_bestSet_65 3 rfl ?_
          refine z_icmp_gt hJ d_Sx_bestSet_66 (fun c_66 => ?_) (fun c_66 => ?_)
          · skip
            refine z_iload hJ d_Sx_bestSet_80 5 rfl ?_
            refine z_istore_n (lv' := [(0, _), (1, _), (2, _), (3, _), (4, _), (5, _), (6, _)]) hJ d_Sx_bestSet_82 (by decide) rfl ?_
            refine z_iload hJ d_Sx_bestSet_83 4 rfl ?_
            refine z_istore_n (lv' := [(0, _), (1, _), (2, _), (3, _), (4, _), (5, _), (6, _)]) hJ d_Sx_bestSet_85 (by decide) rfl ?_
            refine z_iinc (v := nI (j + 1)) (lv' := [(0, _), (1, _), (2, _), (3, _), (4, _), (5, _), (6, _)]) hJ d_Sx_bestSet_86 4 rfl (zinc _) (by decide) rfl ?_
            refine z_goto hJ d_Sx_bestSet_89 ?_
            refine z_drop hJ [0, 1, 2, 3, 4] rfl ?_
            have e := ih (by omega)
            rw [q_bs_t (e := q_earn P) ⟨h_27, Or.inl c_66⟩] at e
            exact e
          · skip
            refine z_iload hJ d_Sx_bestSet_69 5 rfl ?_
            refine z_iload_n hJ d_Sx_bestSet_71 3 rfl ?_
            refine z_icmp_ne hJ d_Sx_bestSet_72 (fun c_72 => ?_) (fun c_72 => ?_)
            · skip
              refine z_iinc (v := nI (j + 1)) (lv' := [(0, _), (1, _), (2, _), (3, _), (4, _), (5, _), (6, _)]) hJ d_Sx_bestSet_86 4 rfl (zinc _) (by decide) rfl ?_
              refine z_goto hJ d_Sx_bestSet_89 ?_
              refine z_drop hJ [0, 1, 2, 3, 4] rfl ?_
              have e := ih (by omega)
              rw [q_bs_f (e := q_earn P) (fun q => by first | exact h_27 q.1 | exact q.2.elim (fun z => c_66 z) (fun z => by first | exact c_72 z.1 | exact z.2 c_53))] at e
              exact e
            · skip
              refine z_iload hJ d_Sx_bestSet_75 6 rfl ?_
              refine z_if_eq hJ d_Sx_bestSet_77 (fun _ => ?_) (fun c => absurd c (by decide))
              refine z_iinc (v := nI (j + 1)) (lv' := [(0, _), (1, _), (2, _), (3, _), (4, _), (5, _), (6, _)]) hJ d_Sx_bestSet_86 4 rfl (zinc _) (by decide) rfl ?_
              refine z_goto hJ d_Sx_bestSet_89 ?_
              refine z_drop hJ [0, 1, 2, 3, 4] rfl ?_
              have e := ih (by omega)
              rw [q_bs_f (e := q_earn P) (fun q => by first | exact h_27 q.1 | exact q.2.elim (fun z => c_66 z) (fun z => by first | exact c_72 z.1 | exact z.2 c_53))] at e
              exact e
        · skip
          refine z_iconst (v := 1) hJ d_Sx_bestSet_56 (by decide) ?_
          refine z_goto hJ d_Sx_bestSet_57 ?_
          refine z_istore (lv' := [(0, _), (1, _), (2, _), (3, _), (4, _), (5, _), (6, _)]) hJ d_Sx_bestSet_61 (by decide) rfl ?_
          refine z_iload hJ d_Sx_bestSet_63 5 rfl ?_
          refine z_iload_n hJ d_Sx_bestSet_65 3 rfl ?_
          refine z_icmp_gt hJ d_Sx_bestSet_66 (fun c_66 => ?_) (fun c_66 => ?_)
          · skip
            refine z_iload hJ d_Sx_bestSet_80 5 rfl ?_
            refine z_istore_n (lv' := [(0, _), (1, _), (2, _), (3, _), (4, _), (5, _), (6, _)]) hJ d_Sx_bestSet_82 (by decide) rfl ?_
            refine z_iload hJ d_Sx_bestSet_83 4 rfl ?_
            refine z_istore_n (lv' := [(0, _), (1, _), (2, _), (3, _), (4, _), (5, _), (6, _)]) hJ d_Sx_bestSet_85 (by decide) rfl ?_
            refine z_iinc (v := nI (j + 1)) (lv' := [(0, _), (1, _), (2, _), (3, _), (4, _), (5, _), (6, _)]) hJ d_Sx_bestSet_86 4 rfl (zinc _) (by decide) rfl ?_
            refine z_goto hJ d_Sx_bestSet_89 ?_
            refine z_drop hJ [0, 1, 2, 3, 4] rfl ?_
            have e := ih (by omega)
            rw [q_bs_t (e := q_earn P) ⟨h_27, Or.inl c_66⟩] at e
            exact e
          · skip
            refine z_iload hJ d_Sx_bestSet_69 5 rfl ?_
            refine z_iload_n hJ d_Sx_bestSet_71 3 rfl ?_
            refine z_icmp_ne hJ d_Sx_bestSet_72 (fun c_72 => ?_) (fun c_72 => ?_)
            · skip
              refine z_iinc (v := nI (j + 1)) (lv' := [(0, _), (1, _), (2, _), (3, _), (4, _), (5, _), (6, _)]) hJ d_Sx_bestSet_86 4 rfl (zinc _) (by decide) rfl ?_
              refine z_goto hJ d_Sx_bestSet_89 ?_
              refine z_drop hJ [0, 1, 2, 3, 4] rfl ?_
              have e := ih (by omega)
              rw [q_bs_f (e := q_earn P) (fun q => by first | exact h_27 q.1 | exact q.2.elim (fun z => c_66 z) (fun z => by first | exact c_72 z.1 | exact z.2 c_53))] at e
              exact e
            · skip
              refine z_iload hJ d_Sx_bestSet_75 6 rfl ?_
              refine z_if_eq hJ d_Sx_bestSet_77 (fun c => absurd c (by decide)) (fun _ => ?_)
              refine z_iload hJ d_Sx_bestSet_80 5 rfl ?_
              refine z_istore_n (lv' := [(0, _), (1, _), (2, _), (3, _), (4, _), (5, _), (6, _)]) hJ d_Sx_bestSet_82 (by decide) rfl ?_
              refine z_iload hJ d_Sx_bestSet_83 4 rfl ?_
              refine z_istore_n (lv' := [(0, _), (1, _), (2, _), (3, _), (4, _), (5, _), (6, _)]) hJ d_Sx_bestSet_85 (by decide) rfl ?_
              refine z_iinc (v := nI (j + 1)) (lv' := [(0, _), (1, _), (2, _), (3, _), (4, _), (5, _), (6, _)]) hJ d_Sx_bestSet_86 4 rfl (zinc _) (by decide) rfl ?_
              refine z_goto hJ d_Sx_bestSet_89 ?_
              refine z_drop hJ [0, 1, 2, 3, 4] rfl ?_
              have e := ih (by omega)
              rw [q_bs_t (e := q_earn P) ⟨h_27, Or.inr ⟨c_72, c_53⟩⟩] at e
              exact e
      · skip
        have h_27 : ¬ ((j &&& q_awk P) = j) := by
          have e := nI_eq (a := (j &&& q_awk P)) (b := j) (by omega) (by omega)
          exact fun q => c_27 (e.mpr q)
        refine z_goto hJ d_Sx_bestSet_30 ?_
        refine z_iinc (v := nI (j + 1)) (lv' := [(0, _), (1, _), (2, _), (3, _), (4, _)]) hJ d_Sx_bestSet_86 4 rfl (zinc _) (by decide) rfl ?_
        refine z_goto hJ d_Sx_bestSet_89 ?_
        have e := ih (by omega)
        rw [q_bs_f (e := q_earn P) (fun q => by first | exact h_27 q.1 | exact q.2.elim (fun z => c_66 z) (fun z => by first | exact c_72 z.1 | exact z.2 c_53))] at e
        exact e
  exact L15 0 (Nat.zero_le _)
set_option maxRecDepth 100000 in
theorem m_Sx_awake {g : Nat → Nat → Nat} {a : Nat → Nat} {f : Nat → Int32} {P K T : RS} {tp : TS} {ss : Nat → SS} {es : Nat → Int32} {kp : Bool}  (hP : zPi P) : zM g y_Sx_awake b_Sx_awake 1 (some .int) 6 [.ref (a 0)] (xW g a f P K T tp ss es kp) [.int (nI (q_best P))] (xW g a f P K T tp ss es kp) := by
  refine zMi (lv := [(0, .ref (a 0))]) (by decide) (Nat.le_of_ble_eq_true rfl) rfl (fun J hJ hR => ?_)
  refine z_aload_n hJ d_Sx_awake_0 0 rfl ?_
  refine z_callVi hJ (m_Sx_bestSet hP) k_Sx_191 zL.id d_Sx_awake_1 hc_Sx 0 rfl rfl rfl (Nat.le_of_ble_eq_true rfl) ⟨by decide, by decide⟩ ?_
  exact z_ri hR d_Sx_awake_4 rfl rfl
set_option maxRecDepth 100000 in
theorem m_Sx_most {g : Nat → Nat → Nat} {a : Nat → Nat} {f : Nat → Int32} {P K T : RS} {tp : TS} {ss : Nat → SS} {es : Nat → Int32} {kp : Bool}  (hP : zPi P) : zM g y_Sx_most b_Sx_most 1 (some .int) 6 [.ref (a 0)] (xW g a f P K T tp ss es kp) [.int (q_earn P (q_best P))] (xW g a f P K T tp ss es kp) := by
  have ha7 := q_awk_128 hP.1
  have hb : q_best P ≤ q_awk P + 1 := q_bs_le _ _ _
  refine zMi (lv := [(0, .ref (a 0))]) (by decide) (Nat.le_of_ble_eq_true rfl) rfl (fun J hJ hR => ?_)
  refine z_aload_n hJ d_Sx_most_0 0 rfl ?_
  refine z_get hJ d_Sx_most_1 hc_Sx f_Sx_16 0 rfl rfl (by decide) ?_
  refine z_aload_n hJ d_Sx_most_4 0 rfl ?_
  refine z_callVi hJ (m_Sx_bestSet hP) k_Sx_191 zL.id d_Sx_most_5 hc_Sx 0 rfl rfl rfl (Nat.le_of_ble_eq_true rfl) ⟨by decide, by decide⟩ ?_
  refine z_callVi hJ (m_Rd_earned hP.1 hP.2.1 (by omega)) k_Sx_173 zL_P d_Sx_most_8 hc_Rd 2 rfl rfl rfl (Nat.le_of_ble_eq_true rfl) ⟨by decide, by decide⟩ ?_
  exact z_ri hR d_Sx_most_11 rfl rfl
set_option maxRecDepth 100000 in
theorem m_Sx_smallestSetFor {g : Nat → Nat → Nat} {a : Nat → Nat} {f : Nat → Int32} {P K T : RS} {tp : TS} {ss : Nat → SS} {es : Nat → Int32} {kp : Bool} {t : Nat} (hP : zPi P) (ht : t < 8) : zM g y_Sx_smallestSetFor b_Sx_smallestSetFor 5 (some .int) 4 [.ref (a 0), .int (nI t)] (xW g a f P K T tp ss es kp) [.int (nI (q_sml P t))] (xW g a f P K T tp ss es kp) := by
  have hj7 := hP.1
  have hj8 := hP.2.1
  have haw := q_awk_31 hP.1
  have has : P.2.2.2.1 < 2 ^ 31 := Nat.lt_trans hP.2.2 (by decide)
  have ha7 := q_awk_128 hP.1
  refine zMi (lv := [(0, .ref (a 0)), (1, .int (nI t))]) (by decide) (Nat.le_of_ble_eq_true rfl) rfl (fun J hJ hR => ?_)
  refine z_aload_n hJ d_Sx_smallestSetFor_0 0 rfl ?_
  refine z_get hJ d_Sx_smallestSetFor_1 hc_Sx f_Sx_16 0 rfl rfl (by decide) ?_
  refine z_callVi hJ (m_Rd_awakeSet hP.1) k_Sx_90 zL_P d_Sx_smallestSetFor_4 hc_Rd 2 rfl rfl rfl (Nat.le_of_ble_eq_true rfl) ⟨by decide, by decide⟩ ?_
  refine z_istore_n (lv' := [(0, _), (1, _), (2, _)]) hJ d_Sx_smallestSetFor_7 (by decide) rfl ?_
  refine z_iconst (v := 0) hJ d_Sx_smallestSetFor_8 (by decide) ?_
  refine z_istore_n (lv' := [(0, _), (1, _), (2, _), (3, _)]) hJ d_Sx_smallestSetFor_9 (by decide) rfl ?_
  refine z_iconst (v := 1) hJ d_Sx_smallestSetFor_10 (by decide) ?_
  refine z_istore (lv' := [(0, _), (1, _), (2, _), (3, _), (4, _)]) hJ d_Sx_smallestSetFor_11 (by decide) rfl ?_
  have L13 : ∀ j : Nat, j ≤ q_awk P + 1 → 1 ≤ j → J (xW g a f P K T tp ss es kp) 13 [(0, .ref (a 0)), (1, .int (nI t)), (2, .int (nI (q_awk P))), (3, .int (nI (q_sm (fun s => q_isMet P s t) (q_awk P) j))), (4, .int (nI j))] [] := by
    refine zloop (q_awk P + 1) (fun j hjN ih => ?_)
    intro hj1
    have hsm := q_sm_le (fun s => q_isMet P s t) (q_awk P) j
    refine z_iload hJ d_Sx_smallestSetFor_13 4 rfl ?_
    refine z_iload_n hJ d_Sx_smallestSetFor_15 2 rfl ?_
    refine z_icmp_gt hJ d_Sx_smallestSetFor_16 (fun c_16 => ?_) (fun c_16 => ?_)
    · skip
      have h_16 : (q_awk P) < j := by
        have e := nI_ltI (a := (q_awk P)) (b := j) (by omega) (by omega)
        exact e.mp c_16
      obtain rfl : j = q_awk P + 1 := by omega
      refine z_iload_n hJ d_Sx_smallestSetFor_69 3 rfl ?_
      exact z_ri hR d_Sx_smallestSetFor_70 rfl rfl
    · skip
      have h_16 : ¬ ((q_awk P) < j) := by
        have e := nI_ltI (a := (q_awk P)) (b := j) (by omega) (by omega)
        exact fun q => c_16 (e.mpr q)
      have hjl : j &&& q_awk P ≤ j := Nat.and_le_left
      refine z_iload hJ d_Sx_smallestSetFor_19 4 rfl ?_
      refine z_iload_n hJ d_Sx_smallestSetFor_21 2 rfl ?_
      refine z_iand hJ d_Sx_smallestSetFor_22 ?_
      refine z_c (y := nI (j &&& q_awk P)) (zand _ _) ?_
      refine z_iload hJ d_Sx_smallestSetFor_23 4 rfl ?_
      refine z_icmp_ne hJ d_Sx_smallestSetFor_25 (fun c_25 => ?_) (fun c_25 => ?_)
      · skip
        have h_25 : ¬ ((j &&& q_awk P) = j) := by
          have e := nI_eq (a := (j &&& q_awk P)) (b := j) (by omega) (by omega)
          exact fun q => c_25 (e.mpr q)
        refine z_iinc (v := nI (j + 1)) (lv' := [(0, _), (1, _), (2, _), (3, _), (4, _)]) hJ d_Sx_smallestSetFor_63 4 rfl (zinc _) (by decide) rfl ?_
        refine z_goto hJ d_Sx_smallestSetFor_66 ?_
        have e := ih (by omega) (by omega)
        rw [q_sm_f (m := fun s => q_isMet P s t) (fun q => by first | exact h_25 q.2.1 | exact absurd q.2.2.1 (by rw [c_38]; decide) | exact q.2.2.2.elim (fun z => h_45 z) (fun z => z c_57))] at e
        exact e
      · skip
        have h_25 : (j &&& q_awk P) = j := by
          have e := nI_eq (a := (j &&& q_awk P)) (b := j) (by omega) (by omega)
          exact e.mp c_25
        refine z_aload_n hJ d_Sx_smallestSetFor_28 0 rfl ?_
        refine z_get hJ d_Sx_smallestSetFor_29 hc_Sx f_Sx_16 0 rfl rfl (by decide) ?_
        refine z_iload_n hJ d_Sx_smallestSetFor_32 1 rfl ?_
        refine z_iload hJ d_Sx_smallestSetFor_33 4 rfl ?_
        refine z_callVi hJ (m_Rd_isMet hP.1 ht (by omega)) k_Sx_153 zL_P d_Sx_smallestSetFor_35 hc_Rd 2 rfl rfl rfl (Nat.le_of_ble_eq_true rfl) ⟨by decide, by decide⟩ ?_
        refine zb_ne hJ d_Sx_smallestSetFor_38 (fun c_38 => ?_) (fun c_38 => ?_)
        · skip
          refine z_iload_n hJ d_Sx_smallestSetFor_44 3 rfl ?_
          refine z_if_eq hJ d_Sx_smallestSetFor_45 (fun c_45 => ?_) (fun c_45 => ?_)
          · skip
            have h_45 : (q_sm (fun s => q_isMet P s t) (q_awk P) j) = 0 := by
              have e := nI_eq (a := (q_sm (fun s => q_isMet P s t) (q_awk P) j)) (b := 0) (by omega) (by omega)
              exact e.mp c_45
            refine z_iload hJ d_Sx_smallestSetFor_60 4 rfl ?_
            refine z_istore_n (lv' := [(0, _), (1, _), (2, _), (3, _), (4, _)]) hJ d_Sx_smallestSetFor_62 (by decide) rfl ?_
            refine z_iinc (v := nI (j + 1)) (lv' := [(0, _), (1, _), (2, _), (3, _), (4, _)]) hJ d_Sx_smallestSetFor_63 4 rfl (zinc _) (by decide) rfl ?_
            refine z_goto hJ d_Sx_smallestSetFor_66 ?_
            have e := ih (by omega) (by omega)
            rw [q_sm_t (m := fun s => q_isMet P s t) ⟨by omega, h_25, c_38, Or.inl h_45⟩] at e
            exact e
          · skip
            have h_45 : ¬ ((q_sm (fun s => q_isMet P s t) (q_awk P) j) = 0) := by
              have e := nI_eq (a := (q_sm (fun s => q_isMet P s t) (q_awk P) j)) (b := 0) (by omega) (by omega)
              exact fun q => c_45 (e.mpr q)
            refine z_iload hJ d_Sx_smallestSetFor_48 4 rfl ?_
            refine z_callSi hJ m_In_bitCount k_Sx_194 zL.nil d_Sx_smallestSetFor_50 rfl rfl (Nat.le_of_ble_eq_true rfl) ⟨by decide, by decide⟩ ?_
            refine z_iload_n hJ d_Sx_smallestSetFor_53 3 rfl ?_
            refine z_callSi hJ m_In_bitCount k_Sx_194 zL.nil d_Sx_smallestSetFor_54 rfl rfl (Nat.le_of_ble_eq_true rfl) ⟨by decide, by decide⟩ ?_
            refine z_icmp_ge hJ d_Sx_smallestSetFor_57 (fun c_57 => ?_) (fun c_57 => ?_)
            · skip
              refine z_iinc (v := nI (j + 1)) (lv' := [(0, _), (1, _), (2, _), (3, _), (4, _)]) hJ d_Sx_smallestSetFor_63 4 rfl (zinc _) (by decide) rfl ?_
              refine z_goto hJ d_Sx_smallestSetFor_66 ?_
              have e := ih (by omega) (by omega)
              rw [q_sm_f (m := fun s => q_isMet P s t) (fun q => by first | exact h_25 q.2.1 | exact absurd q.2.2.1 (by rw [c_38]; decide) | exact q.2.2.2.elim (fun z => h_45 z) (fun z => z c_57))] at e
              exact e
            · skip
              refine z_iload hJ d_Sx_smallestSetFor_60 4 rfl ?_
              refine z_istore_n (lv' := [(0, _), (1, _), (2, _), (3, _), (4, _)]) hJ d_Sx_smallestSetFor_62 (by decide) rfl ?_
              refine z_iinc (v := nI (j + 1)) (lv' := [(0, _), (1, _), (2, _), (3, _), (4, _)]) hJ d_Sx_smallestSetFor_63 4 rfl (zinc _) (by decide) rfl ?_
              refine z_goto hJ d_Sx_smallestSetFor_66 ?_
              have e := ih (by omega) (by omega)
              rw [q_sm_t (m := fun s => q_isMet P s t) ⟨by omega, h_25, c_38, Or.inr c_57⟩] at e
              exact e
        · skip
          refine z_goto hJ d_Sx_smallestSetFor_41 ?_
          refine z_iinc (v := nI (j + 1)) (lv' := [(0, _), (1, _), (2, _), (3, _), (4, _)]) hJ d_Sx_smallestSetFor_63 4 rfl (zinc _) (by decide) rfl ?_
          refine z_goto hJ d_Sx_smallestSetFor_66 ?_
          have e := ih (by omega) (by omega)
          rw [q_sm_f (m := fun s => q_isMet P s t) (fun q => by first | exact h_25 q.2.1 | exact absurd q.2.2.1 (by rw [c_38]; decide) | exact q.2.2.2.elim (fun z => h_45 z) (fun z => z c_57))] at e
          exact e
  have e := L13 1 (by omega) (Nat.le_refl 1)
  rw [q_sm_1] at e
  exact e
set_option maxRecDepth 100000 in
theorem m_Sx_fewest {g : Nat → Nat → Nat} {a : Nat → Nat} {f : Nat → Int32} {P K T : RS} {tp : TS} {ss : Nat → SS} {es : Nat → Int32} {kp : Bool} {i : Int32} (hP : zPi P) : zM g y_Sx_fewest b_Sx_fewest 3 (some .int) 5 [.ref (a 0), .int i] (xW g a f P K T tp ss es kp) [.int (p_fewest f P i).1] (xW g a (p_fewest f P i).2 P K T tp ss es kp) := by
  refine zMi (lv := [(0, .ref (a 0)), (1, .int i)]) (by decide) (Nat.le_of_ble_eq_true rfl) rfl (fun J hJ hR => ?_)
  rcases q_ix_or i (n := P.2.2.1) (by first | exact Nat.le_trans hP.1 (by decide) | exact hP.2.1) with ⟨j, hj, rfl⟩ | hq
  · have hj7 := hP.1
    have hj8 := hP.2.1
    have haw := q_awk_31 hP.1
    have has : P.2.2.2.1 < 2 ^ 31 := Nat.lt_trans hP.2.2 (by decide)
    have hq := q_ix_t hj (n := P.2.2.1) (by omega)
    have hcl : (nI j).toNatClampNeg = j := nI_clamp (by omega)
    refine z_aload_n hJ d_Sx_fewest_0 0 rfl ?_
    refine z_iload_n hJ d_Sx_fewest_1 1 rfl ?_
    refine z_callVi hJ m_Sx_isTask k_Sx_132 zL.id d_Sx_fewest_2 hc_Sx 0 rfl rfl rfl (Nat.le_of_ble_eq_true rfl) ⟨by decide, by decide⟩ ?_
    refine zb_ne hJ d_Sx_fewest_5 (fun c_5 => ?_) (fun c_5 => False.elim (by rw [hq] at c_5; exact absurd c_5 (by decide)))
    refine z_aload_n hJ d_Sx_fewest_15 0 rfl ?_
    refine z_iload_n hJ d_Sx_fewest_16 1 rfl ?_
    refine z_callVi hJ (m_Sx_smallestSetFor hP (by omega)) k_Sx_199 zL.id d_Sx_fewest_17 hc_Sx 0 rfl rfl rfl (Nat.le_of_ble_eq_true rfl) ⟨by decide, by decide⟩ ?_
    have ha7 := q_awk_128 hP.1
    have hsm : q_sml P j ≤ q_awk P + 1 := q_sm_le _ _ _
    refine z_istore_n (lv' := [(0, _), (1, _), (2, _)]) hJ d_Sx_fewest_20 (by decide) rfl ?_
    refine z_iload_n hJ d_Sx_fewest_21 2 rfl ?_
    refine z_if_ne hJ d_Sx_fewest_22 (fun c_22 => ?_) (fun c_22 => ?_)
    · skip
      have h_22 : ¬ ((q_sml P j) = 0) := by
        have e := nI_eq (a := (q_sml P j)) (b := 0) (by omega) (by omega)
        exact fun q => c_22 (e.mpr q)
      refine z_iload_n hJ d_Sx_fewest_34 2 rfl ?_
      refine z_callSi hJ m_In_bitCount k_Sx_194 zL.nil d_Sx_fewest_35 rfl rfl (Nat.le_of_ble_eq_true rfl) ⟨by decide, by decide⟩ ?_
      exact z_ri hR d_Sx_fewest_38 (by simp [p_fewest, hq, hcl, h_22, c_5, c_22]; try rfl) (by simp [p_fewest, hq, hcl, h_22, c_5, c_22])
    · skip
      have h_22 : (q_sml P j) = 0 := by
        have e := nI_eq (a := (q_sml P j)) (b := 0) (by omega) (by omega)
        exact e.mp c_22
      refine z_aload_n hJ d_Sx_fewest_25 0 rfl ?_
      refine z_ldc hJ d_Sx_fewest_26 c_Sx_186 ?_
      refine z_callVi hJ m_Sx_tell_3 k_Sx_55 zL.id d_Sx_fewest_28 hc_Sx 0 rfl rfl rfl (Nat.le_of_ble_eq_true rfl) ⟨by decide, by decide⟩ ?_
      refine z_goto hJ d_Sx_fewest_31 ?_
      exact z_ri hR d_Sx_fewest_38 (by simp [p_fewest, hq, hcl, h_22, c_5, c_22]; try rfl) (by simp [p_fewest, hq, hcl, h_22, c_5, c_22])
  · skip
    refine z_aload_n hJ d_Sx_fewest_0 0 rfl ?_
    refine z_iload_n hJ d_Sx_fewest_1 1 rfl ?_
    refine z_callVi hJ m_Sx_isTask k_Sx_132 zL.id d_Sx_fewest_2 hc_Sx 0 rfl rfl rfl (Nat.le_of_ble_eq_true rfl) ⟨by decide, by decide⟩ ?_
    refine zb_ne hJ d_Sx_fewest_5 (fun c_5 => False.elim (by rw [hq] at c_5; exact absurd c_5 (by decide))) (fun c_5 => ?_)
    refine z_aload_n hJ d_Sx_fewest_8 0 rfl ?_
    refine z_ldc hJ d_Sx_fewest_9 c_Sx_54 ?_
    refine z_callVi hJ m_Sx_tell_0 k_Sx_55 zL.id d_Sx_fewest_11 hc_Sx 0 rfl rfl rfl (Nat.le_of_ble_eq_true rfl) ⟨by decide, by decide⟩ ?_
    exact z_ri hR d_Sx_fewest_14 (by simp [p_fewest, hq, c_5]; try rfl) (by simp [p_fewest, hq, c_5])
set_option maxRecDepth 100000 in
theorem m_Sx_who {g : Nat → Nat → Nat} {a : Nat → Nat} {f : Nat → Int32} {P K T : RS} {tp : TS} {ss : Nat → SS} {es : Nat → Int32} {kp : Bool} {i : Int32} (hP : zPi P) : zM g y_Sx_who b_Sx_who 3 (some .int) 5 [.ref (a 0), .int i] (xW g a f P K T tp ss es kp) [.int (p_who f P i).1] (xW g a (p_who f P i).2 P K T tp ss es kp) := by
  refine zMi (lv := [(0, .ref (a 0)), (1, .int i)]) (by decide) (Nat.le_of_ble_eq_true rfl) rfl (fun J hJ hR => ?_)
  rcases q_ix_or i (n := P.2.2.1) (by first | exact Nat.le_trans hP.1 (by decide) | exact hP.2.1) with ⟨j, hj, rfl⟩ | hq
  · have hj7 := hP.1
    have hj8 := hP.2.1
    have haw := q_awk_31 hP.1
    have has : P.2.2.2.1 < 2 ^ 31 := Nat.lt_trans hP.2.2 (by decide)
    have hq := q_ix_t hj (n := P.2.2.1) (by omega)
    have hcl : (nI j).toNatClampNeg = j := nI_clamp (by omega)
    refine z_aload_n hJ d_Sx_who_0 0 rfl ?_
    refine z_iload_n hJ d_Sx_who_1 1 rfl ?_
    refine z_callVi hJ m_Sx_isTask k_Sx_132 zL.id d_Sx_who_2 hc_Sx 0 rfl rfl rfl (Nat.le_of_ble_eq_true rfl) ⟨by decide, by decide⟩ ?_
    refine zb_ne hJ d_Sx_who_5 (fun c_5 => ?_) (fun c_5 => False.elim (by rw [hq] at c_5; exact absurd c_5 (by decide)))
    refine z_aload_n hJ d_Sx_who_15 0 rfl ?_
    refine z_iload_n hJ d_Sx_who_16 1 rfl ?_
    refine z_callVi hJ (m_Sx_smallestSetFor hP (by omega)) k_Sx_199 zL.id d_Sx_who_17 hc_Sx 0 rfl rfl rfl (Nat.le_of_ble_eq_true rfl) ⟨by decide, by decide⟩ ?_
    have ha7 := q_awk_128 hP.1
    have hsm : q_sml P j ≤ q_awk P + 1 := q_sm_le _ _ _
    refine z_istore_n (lv' := [(0, _), (1, _), (2, _)]) hJ d_Sx_who_20 (by decide) rfl ?_
    refine z_iload_n hJ d_Sx_who_21 2 rfl ?_
    refine z_if_ne hJ d_Sx_who_22 (fun c_22 => ?_) (fun c_22 => ?_)
    · skip
      have h_22 : ¬ ((q_sml P j) = 0) := by
        have e := nI_eq (a := (q_sml P j)) (b := 0) (by omega) (by omega)
        exact fun q => c_22 (e.mpr q)
      refine z_iload_n hJ d_Sx_who_34 2 rfl ?_
      exact z_ri hR d_Sx_who_35 (by simp [p_who, hq, hcl, h_22, c_5, c_22]; try rfl) (by simp [p_who, hq, hcl, h_22, c_5, c_22])
    · skip
      have h_22 : (q_sml P j) = 0 := by
        have e := nI_eq (a := (q_sml P j)) (b := 0) (by omega) (by omega)
        exact e.mp c_22
      refine z_aload_n hJ d_Sx_who_25 0 rfl ?_
      refine z_ldc hJ d_Sx_who_26 c_Sx_186 ?_
      refine z_callVi hJ m_Sx_tell_3 k_Sx_55 zL.id d_Sx_who_28 hc_Sx 0 rfl rfl rfl (Nat.le_of_ble_eq_true rfl) ⟨by decide, by decide⟩ ?_
      refine z_goto hJ d_Sx_who_31 ?_
      exact z_ri hR d_Sx_who_35 (by simp [p_who, hq, hcl, h_22, c_5, c_22]; try rfl) (by simp [p_who, hq, hcl, h_22, c_5, c_22])
  · skip
    refine z_aload_n hJ d_Sx_who_0 0 rfl ?_
    refine z_iload_n hJ d_Sx_who_1 1 rfl ?_
    refine z_callVi hJ m_Sx_isTask k_Sx_132 zL.id d_Sx_who_2 hc_Sx 0 rfl rfl rfl (Nat.le_of_ble_eq_true rfl) ⟨by decide, by decide⟩ ?_
    refine zb_ne hJ d_Sx_who_5 (fun c_5 => False.elim (by rw [hq] at c_5; exact absurd c_5 (by decide))) (fun c_5 => ?_)
    refine z_aload_n hJ d_Sx_who_8 0 rfl ?_
    refine z_ldc hJ d_Sx_who_9 c_Sx_54 ?_
    refine z_callVi hJ m_Sx_tell_0 k_Sx_55 zL.id d_Sx_who_11 hc_Sx 0 rfl rfl rfl (Nat.le_of_ble_eq_true rfl) ⟨by decide, by decide⟩ ?_
    exact z_ri hR d_Sx_who_14 (by simp [p_who, hq, c_5]; try rfl) (by simp [p_who, hq, c_5])
set_option maxRecDepth 100000 in
theorem m_Sx_spoils {g : Nat → Nat → Nat} {a : Nat → Nat} {f : Nat → Int32} {P K T : RS} {tp : TS} {ss : Nat → SS} {es : Nat → Int32} {kp : Bool}  (hP : zPi P) : zM g y_Sx_spoils b_Sx_spoils 5 (some .int) 5 [.ref (a 0)] (xW g a f P K T tp ss es kp) [.int (p_spoils P)] (xW g a f P K T tp ss es kp) := by
  have hj7 := hP.1
  have hj8 := hP.2.1
  have haw := q_awk_31 hP.1
  have has : P.2.2.2.1 < 2 ^ 31 := Nat.lt_trans hP.2.2 (by decide)
  refine zMi (lv := [(0, .ref (a 0))]) (by decide) (Nat.le_of_ble_eq_true rfl) rfl (fun J hJ hR => ?_)
  refine z_aload_n hJ d_Sx_spoils_0 0 rfl ?_
  refine z_get hJ d_Sx_spoils_1 hc_Sx f_Sx_16 0 rfl rfl (by decide) ?_
  refine z_callVi hJ (m_Rd_awakeSet hP.1) k_Sx_90 zL_P d_Sx_spoils_4 hc_Rd 2 rfl rfl rfl (Nat.le_of_ble_eq_true rfl) ⟨by decide, by decide⟩ ?_
  refine z_istore_n (lv' := [(0, _), (1, _)]) hJ d_Sx_spoils_7 (by decide) rfl ?_
  refine z_aload_n hJ d_Sx_spoils_8 0 rfl ?_
  refine z_get hJ d_Sx_spoils_9 hc_Sx f_Sx_16 0 rfl rfl (by decide) ?_
  refine z_iload_n hJ d_Sx_spoils_12 1 rfl ?_
  refine z_callVi hJ (m_Rd_earned hP.1 hP.2.1 (q_awk_31 hP.1)) k_Sx_173 zL_P d_Sx_spoils_13 hc_Rd 2 rfl rfl rfl (Nat.le_of_ble_eq_true rfl) ⟨by decide, by decide⟩ ?_
  refine z_istore_n (lv' := [(0, _), (1, _), (2, _)]) hJ d_Sx_spoils_16 (by decide) rfl ?_
  refine z_iconst (v := 0) hJ d_Sx_spoils_17 (by decide) ?_
  refine z_istore_n (lv' := [(0, _), (1, _), (2, _), (3, _)]) hJ d_Sx_spoils_18 (by decide) rfl ?_
  refine z_iconst (v := 0) hJ d_Sx_spoils_19 (by decide) ?_
  refine z_istore (lv' := [(0, _), (1, _), (2, _), (3, _), (4, _)]) hJ d_Sx_spoils_20 (by decide) rfl ?_
  have L22 : ∀ j : Nat, j ≤ P.2.1 → J (xW g a f P K T tp ss es kp) 22 [(0, .ref (a 0)), (1, .int (nI (q_awk P))), (2, .int (q_earn P (q_awk P))), (3, .int (nI (q_mask (q_spl P) j))), (4, .int (nI j))] [] := by
    refine zloop (P.2.1) (fun j hjN ih => ?_)
    refine z_iload hJ d_Sx_spoils_22 4 rfl ?_
    refine z_aload_n hJ d_Sx_spoils_24 0 rfl ?_
    refine z_get hJ d_Sx_spoils_25 hc_Sx f_Sx_16 0 rfl rfl (by decide) ?_
    refine z_get hJ d_Sx_spoils_28 hc_Rd f_Sx_59 2 rfl rfl (by decide) ?_
    refine z_icmp_ge hJ d_Sx_spoils_31 (fun c_31 => ?_) (fun c_31 => ?_)
    · skip
      have h_31 : P.2.1 ≤ j := by
        have e := nI_leI (a := P.2.1) (b := j) (by omega) (by omega)
        exact e.mp c_31
      obtain rfl : j = P.2.1 := by omega
      refine z_iload_n hJ d_Sx_spoils_75 3 rfl ?_
      exact z_ri hR d_Sx_spoils_76 rfl rfl
    · skip
      have h_31 : ¬ (P.2.1 ≤ j) := by
        have e := nI_leI (a := P.2.1) (b := j) (by omega) (by omega)
        exact fun q => c_31 (e.mpr q)
      refine z_iload_n hJ d_Sx_spoils_34 1 rfl ?_
      refine z_iload hJ d_Sx_spoils_35 4 rfl ?_
      refine z_callSi hJ (m_Sx_has haw (by omega)) k_Sx_86 zL.nil d_Sx_spoils_37 rfl rfl (Nat.le_of_ble_eq_true rfl) ⟨by decide, by decide⟩ ?_
      refine zb_eq hJ d_Sx_spoils_40 (fun c_40 => ?_) (fun c_40 => ?_)
      · skip
        refine z_iinc (v := nI (j + 1)) (lv' := [(0, _), (1, _), (2, _), (3, _), (4, _)]) hJ d_Sx_spoils_69 4 rfl (zinc _) (by decide) rfl ?_
        refine z_goto hJ d_Sx_spoils_72 ?_
        have e := ih (by omega)
        rw [q_mask_f (f := q_spl P) (by simp [q_spl, c_31, c_40])] at e
        exact e
      · skip
        refine z_aload_n hJ d_Sx_spoils_43 0 rfl ?_
        refine z_get hJ d_Sx_spoils_44 hc_Sx f_Sx_16 0 rfl rfl (by decide) ?_
        refine z_iload_n hJ d_Sx_spoils_47 1 rfl ?_
        refine z_iconst (v := 1) hJ d_Sx_spoils_48 (by decide) ?_
        refine z_iload hJ d_Sx_spoils_49 4 rfl ?_
        refine z_ishl hJ d_Sx_spoils_51 ?_
        refine z_iconst (v := (-1)) hJ d_Sx_spoils_52 (by decide) ?_
        refine z_ixor hJ d_Sx_spoils_53 ?_
        refine z_iand hJ d_Sx_spoils_54 ?_
        refine z_c (q_clr_e (by omega)) ?_
        refine z_callVi hJ (m_Rd_earned (aw := q_clr (q_awk P) j) hP.1 hP.2.1 (q_clr_31 haw)) k_Sx_173 zL_P d_Sx_spoils_55 hc_Rd 2 rfl rfl rfl (Nat.le_of_ble_eq_true rfl) ⟨by decide, by decide⟩ ?_
        refine z_iload_n hJ d_Sx_spoils_58 2 rfl ?_
        refine z_icmp_le hJ d_Sx_spoils_59 (fun c_59 => ?_) (fun c_59 => ?_)
        · skip
          refine z_iinc (v := nI (j + 1)) (lv' := [(0, _), (1, _), (2, _), (3, _), (4, _)]) hJ d_Sx_spoils_69 4 rfl (zinc _) (by decide) rfl ?_
          refine z_goto hJ d_Sx_spoils_72 ?_
          have e := ih (by omega)
          rw [q_mask_f (f := q_spl P) (by simp [q_spl, c_31, c_40, c_59])] at e
          exact e
        · skip
          refine z_iload_n hJ d_Sx_spoils_62 3 rfl ?_
          refine z_iconst (v := 1) hJ d_Sx_spoils_63 (by decide) ?_
          refine z_iload hJ d_Sx_spoils_64 4 rfl ?_
          refine z_ishl hJ d_Sx_spoils_66 ?_
          refine z_ior hJ d_Sx_spoils_67 ?_
          refine z_c (q_mask_t (f := q_spl P) (by simp [q_spl, c_40, c_59]) (by omega)) ?_
          refine z_istore_n (lv' := [(0, _), (1, _), (2, _), (3, _), (4, _)]) hJ d_Sx_spoils_68 (by decide) rfl ?_
          refine z_iinc (v := nI (j + 1)) (lv' := [(0, _), (1, _), (2, _), (3, _), (4, _)]) hJ d_Sx_spoils_69 4 rfl (zinc _) (by decide) rfl ?_
          refine z_goto hJ d_Sx_spoils_72 ?_
          exact ih (by omega)
  exact L22 0 (Nat.zero_le _)
set_option maxRecDepth 100000 in
theorem m_Sx_learn {g : Nat → Nat → Nat} {a : Nat → Nat} {f : Nat → Int32} {P K T : RS} {tp : TS} {ss : Nat → SS} {es : Nat → Int32} {kp : Bool}  (hP : zPi P) : zM g y_Sx_learn b_Sx_learn 7 (some .int) 5 [.ref (a 0)] (xW g a f P K T tp ss es kp) [.int (p_learn f P).1] (xW g a (p_learn f P).2 P K P tp ss es kp) := by
  have hj7 := hP.1
  have hj8 := hP.2.1
  have haw := q_awk_31 hP.1
  have has : P.2.2.2.1 < 2 ^ 31 := Nat.lt_trans hP.2.2 (by decide)
  refine zMi (lv := [(0, .ref (a 0))]) (by decide) (Nat.le_of_ble_eq_true rfl) rfl (fun J hJ hR => ?_)
  refine z_aload_n hJ d_Sx_learn_0 0 rfl ?_
  refine z_get hJ d_Sx_learn_1 hc_Sx f_Sx_23 0 rfl rfl (by decide) ?_
  refine z_aload_n hJ d_Sx_learn_4 0 rfl ?_
  refine z_get hJ d_Sx_learn_5 hc_Sx f_Sx_16 0 rfl rfl (by decide) ?_
  refine z_callVv hJ m_Rd_become k_Sx_182 zL_TP d_Sx_learn_8 hc_Rd 20 rfl rfl rfl (Nat.le_of_ble_eq_true rfl) ⟨by decide, by decide⟩ ?_
  refine z_aload_n hJ d_Sx_learn_11 0 rfl ?_
  refine z_get hJ d_Sx_learn_12 hc_Sx f_Sx_23 0 rfl rfl (by decide) ?_
  refine z_callVi hJ (m_Rd_awakeSet hP.1) k_Sx_90 zL_T d_Sx_learn_15 hc_Rd 20 rfl rfl rfl (Nat.le_of_ble_eq_true rfl) ⟨by decide, by decide⟩ ?_
  refine z_istore_n (lv' := [(0, _), (1, _)]) hJ d_Sx_learn_18 (by decide) rfl ?_
  refine z_aload_n hJ d_Sx_learn_19 0 rfl ?_
  refine z_get hJ d_Sx_learn_20 hc_Sx f_Sx_23 0 rfl rfl (by decide) ?_
  refine z_iload_n hJ d_Sx_learn_23 1 rfl ?_
  refine z_callVi hJ (m_Rd_earned hP.1 hP.2.1 haw) k_Sx_173 zL_T d_Sx_learn_24 hc_Rd 20 rfl rfl rfl (Nat.le_of_ble_eq_true rfl) ⟨by decide, by decide⟩ ?_
  refine z_istore_n (lv' := [(0, _), (1, _), (2, _)]) hJ d_Sx_learn_27 (by decide) rfl ?_
  refine z_iconst (v := (-1)) hJ d_Sx_learn_28 (by decide) ?_
  refine z_istore_n (lv' := [(0, _), (1, _), (2, _), (3, _)]) hJ d_Sx_learn_29 (by decide) rfl ?_
  refine z_iconst (v := 0) hJ d_Sx_learn_30 (by decide) ?_
  refine z_istore (lv' := [(0, _), (1, _), (2, _), (3, _), (4, _)]) hJ d_Sx_learn_31 (by decide) rfl ?_
  have L33 : ∀ j : Nat, j ≤ P.2.1 → J (xW g a f P K P tp ss es kp) 33 [(0, .ref (a 0)), (1, .int (nI (q_awk P))), (2, .int (q_ln P j).2), (3, .int (q_ln P j).1), (4, .int (nI j))] [] := by
    refine zloop (P.2.1) (fun j hjN ih => ?_)
    refine z_iload hJ d_Sx_learn_33 4 rfl ?_
    refine z_aload_n hJ d_Sx_learn_35 0 rfl ?_
    refine z_get hJ d_Sx_learn_36 hc_Sx f_Sx_23 0 rfl rfl (by decide) ?_
    refine z_get hJ d_Sx_learn_39 hc_Rd f_Sx_59 20 rfl rfl (by decide) ?_
    refine z_icmp_ge hJ d_Sx_learn_42 (fun c_42 => ?_) (fun c_42 => ?_)
    · skip
      have h_42 : P.2.1 ≤ j := by
        have e := nI_leI (a := P.2.1) (b := j) (by omega) (by omega)
        exact e.mp c_42
      obtain rfl : j = P.2.1 := by omega
      refine z_iload_n hJ d_Sx_learn_116 3 rfl ?_
      refine z_if_ge hJ d_Sx_learn_117 (fun c_117 => ?_) (fun c_117 => ?_)
      · skip
        refine z_iload_n hJ d_Sx_learn_129 3 rfl ?_
        exact z_ri hR d_Sx_learn_130 (by simp [p_learn, c_42, c_117]; try rfl) (by simp [p_learn, c_42, c_117])
      · skip
        refine z_aload_n hJ d_Sx_learn_120 0 rfl ?_
        refine z_ldc hJ d_Sx_learn_121 c_Sx_186 ?_
        refine z_callVi hJ m_Sx_tell_3 k_Sx_55 zL.id d_Sx_learn_123 hc_Sx 0 rfl rfl rfl (Nat.le_of_ble_eq_true rfl) ⟨by decide, by decide⟩ ?_
        refine z_goto hJ d_Sx_learn_126 ?_
        exact z_ri hR d_Sx_learn_130 (by simp [p_learn, c_42, c_117]; try rfl) (by simp [p_learn, c_42, c_117])
    · skip
      have h_42 : ¬ (P.2.1 ≤ j) := by
        have e := nI_leI (a := P.2.1) (b := j) (by omega) (by omega)
        exact fun q => c_42 (e.mpr q)
      refine z_aload_n hJ d_Sx_learn_45 0 rfl ?_
      refine z_get hJ d_Sx_learn_46 hc_Sx f_Sx_23 0 rfl rfl (by decide) ?_
      refine z_get hJ d_Sx_learn_49 hc_Rd f_Sx_80 20 rfl rfl (by decide) ?_
      refine z_iload hJ d_Sx_learn_52 4 rfl ?_
      refine z_iald hJ d_Sx_learn_54 24 (j) rfl rfl (by omega) (by decide) ?_
      refine z_istore (lv' := [(0, _), (1, _), (2, _), (3, _), (4, _), (5, _)]) hJ d_Sx_learn_55 (by decide) rfl ?_
      refine z_aload_n hJ d_Sx_learn_57 0 rfl ?_
      refine z_get hJ d_Sx_learn_58 hc_Sx f_Sx_23 0 rfl rfl (by decide) ?_
      refine z_get hJ d_Sx_learn_61 hc_Rd f_Sx_80 20 rfl rfl (by decide) ?_
      refine z_iload hJ d_Sx_learn_64 4 rfl ?_
      refine z_iload hJ d_Sx_learn_66 5 rfl ?_
      refine z_iconst (v := 1) hJ d_Sx_learn_68 (by decide) ?_
      refine z_iadd hJ d_Sx_learn_69 ?_
      refine z_bipush (v := 9) hJ d_Sx_learn_70 (by decide) ?_
      refine z_mmin hJ d_Sx_learn_72 k_Sx_202 (Nat.le_of_ble_eq_true rfl) ⟨by decide, by decide⟩ ?_
      refine z_c (y := q_min _ _) rfl ?_
      refine z_iast (w' := xW g a f P K (P.1, P.2.1, P.2.2.1, P.2.2.2.1, P.2.2.2.2.1, P.2.2.2.2.2.1, P.2.2.2.2.2.2.1, upd P.2.2.2.2.2.2.2.1 (j) (q_min (rs P j + 1) 9), P.2.2.2.2.2.2.2.2.1, P.2.2.2.2.2.2.2.2.2.1, P.2.2.2.2.2.2.2.2.2.2.1, P.2.2.2.2.2.2.2.2.2.2.2) tp ss es kp) hJ d_Sx_learn_75 24 (j) rfl rfl (by omega) (by decide) rfl ?_
      refine z_aload_n hJ d_Sx_learn_76 0 rfl ?_
      refine z_get hJ d_Sx_learn_77 hc_Sx f_Sx_23 0 rfl rfl (by decide) ?_
      refine z_iload_n hJ d_Sx_learn_80 1 rfl ?_
      refine z_callVi hJ (m_Rd_earned (P := q_setS P j (q_min (rs P j + 1) 9)) hP.1 hP.2.1 haw) k_Sx_173 zL_T d_Sx_learn_81 hc_Rd 20 rfl rfl rfl (Nat.le_of_ble_eq_true rfl) ⟨by decide, by decide⟩ ?_
      refine z_istore (lv' := [(0, _), (1, _), (2, _), (3, _), (4, _), (5, _), (6, _)]) hJ d_Sx_learn_84 (by decide) rfl ?_
      refine z_aload_n hJ d_Sx_learn_86 0 rfl ?_
      refine z_get hJ d_Sx_learn_87 hc_Sx f_Sx_23 0 rfl rfl (by decide) ?_
      refine z_get hJ d_Sx_learn_90 hc_Rd f_Sx_80 20 rfl rfl (by decide) ?_
      refine z_iload hJ d_Sx_learn_93 4 rfl ?_
      refine z_iload hJ d_Sx_learn_95 5 rfl ?_
      refine z_iast (w' := xW g a f P K (P.1, P.2.1, P.2.2.1, P.2.2.2.1, P.2.2.2.2.1, P.2.2.2.2.2.1, P.2.2.2.2.2.2.1, upd (upd P.2.2.2.2.2.2.2.1 (j) (q_min (rs P j + 1) 9)) (j) (rs P j), P.2.2.2.2.2.2.2.2.1, P.2.2.2.2.2.2.2.2.2.1, P.2.2.2.2.2.2.2.2.2.2.1, P.2.2.2.2.2.2.2.2.2.2.2) tp ss es kp) hJ d_Sx_learn_97 24 (j) rfl rfl (by omega) (by decide) rfl ?_
      refine z_w (w' := xW g a f P K (P.1, P.2.1, P.2.2.1, P.2.2.2.1, P.2.2.2.2.1, P.2.2.2.2.2.1, P.2.2.2.2.2.2.1, rs P, P.2.2.2.2.2.2.2.2.1, P.2.2.2.2.2.2.2.2.2.1, P.2.2.2.2.2.2.2.2.2.2.1, P.2.2.2.2.2.2.2.2.2.2.2) tp ss es kp) (by rw [q_upd_back]) ?_
      refine z_iload hJ d_Sx_learn_98 6 rfl ?_
      refine z_iload_n hJ d_Sx_learn_100 2 rfl ?_
      refine z_icmp_le hJ d_Sx_learn_101 (fun c_101 => ?_) (fun c_101 => ?_)
      · skip
        try dsimp only at c_101
        refine z_iinc (v := nI (j + 1)) (lv' := [(0, _), (1, _), (2, _), (3, _), (4, _), (5, _), (6, _)]) hJ d_Sx_learn_110 4 rfl (zinc _) (by decide) rfl ?_
        refine z_goto hJ d_Sx_learn_113 ?_
        refine z_drop hJ [0, 1, 2, 3, 4] rfl ?_
        have e := ih (by omega)
        rw [q_ln_f c_101] at e
        exact e
      · skip
        try dsimp only at c_101
        refine z_iload hJ d_Sx_learn_104 6 rfl ?_
        refine z_istore_n (lv' := [(0, _), (1, _), (2, _), (3, _), (4, _), (5, _), (6, _)]) hJ d_Sx_learn_106 (by decide) rfl ?_
        refine z_iload hJ d_Sx_learn_107 4 rfl ?_
        refine z_istore_n (lv' := [(0, _), (1, _), (2, _), (3, _), (4, _), (5, _), (6, _)]) hJ d_Sx_learn_109 (by decide) rfl ?_
        refine z_iinc (v := nI (j + 1)) (lv' := [(0, _), (1, _), (2, _), (3, _), (4, _), (5, _), (6, _)]) hJ d_Sx_learn_110 4 rfl (zinc _) (by decide) rfl ?_
        refine z_goto hJ d_Sx_learn_113 ?_
        refine z_drop hJ [0, 1, 2, 3, 4] rfl ?_
        have e := ih (by omega)
        rw [q_ln_t c_101] at e
        exact e
  exact L33 0 (Nat.zero_le _)
set_option maxRecDepth 100000 in
theorem m_Sx_missed {g : Nat → Nat → Nat} {a : Nat → Nat} {f : Nat → Int32} {P K T : RS} {tp : TS} {ss : Nat → SS} {es : Nat → Int32} {kp : Bool} {i : Int32} (hP : zPi P) : zM g y_Sx_missed b_Sx_missed 3 (some .int) 5 [.ref (a 0), .int i] (xW g a f P K T tp ss es kp) [.int (p_missed f P i).1] (xW g a (p_missed f P i).2 P K T tp ss es kp) := by
  refine zMi (lv := [(0, .ref (a 0)), (1, .int i)]) (by decide) (Nat.le_of_ble_eq_true rfl) rfl (fun J hJ hR => ?_)
  rcases q_ix_or i (n := P.2.1) (by first | exact Nat.le_trans hP.1 (by decide) | exact hP.2.1) with ⟨j, hj, rfl⟩ | hq
  · have hj7 := hP.1
    have hj8 := hP.2.1
    have haw := q_awk_31 hP.1
    have has : P.2.2.2.1 < 2 ^ 31 := Nat.lt_trans hP.2.2 (by decide)
    have hq := q_ix_t hj (n := P.2.1) (by omega)
    have hcl : (nI j).toNatClampNeg = j := nI_clamp (by omega)
    refine z_aload_n hJ d_Sx_missed_0 0 rfl ?_
    refine z_iload_n hJ d_Sx_missed_1 1 rfl ?_
    refine z_callVi hJ m_Sx_isFellow k_Sx_68 zL.id d_Sx_missed_2 hc_Sx 0 rfl rfl rfl (Nat.le_of_ble_eq_true rfl) ⟨by decide, by decide⟩ ?_
    refine zb_ne hJ d_Sx_missed_5 (fun c_5 => ?_) (fun c_5 => False.elim (by rw [hq] at c_5; exact absurd c_5 (by decide)))
    refine z_aload_n hJ d_Sx_missed_15 0 rfl ?_
    refine z_get hJ d_Sx_missed_16 hc_Sx f_Sx_16 0 rfl rfl (by decide) ?_
    refine z_callVi hJ (m_Rd_awakeSet hP.1) k_Sx_90 zL_P d_Sx_missed_19 hc_Rd 2 rfl rfl rfl (Nat.le_of_ble_eq_true rfl) ⟨by decide, by decide⟩ ?_
    refine z_istore_n (lv' := [(0, _), (1, _), (2, _)]) hJ d_Sx_missed_22 (by decide) rfl ?_
    refine z_aload_n hJ d_Sx_missed_23 0 rfl ?_
    refine z_get hJ d_Sx_missed_24 hc_Sx f_Sx_16 0 rfl rfl (by decide) ?_
    refine z_iload_n hJ d_Sx_missed_27 2 rfl ?_
    refine z_callVi hJ (m_Rd_earned hP.1 hP.2.1 (q_awk_31 hP.1)) k_Sx_173 zL_P d_Sx_missed_28 hc_Rd 2 rfl rfl rfl (Nat.le_of_ble_eq_true rfl) ⟨by decide, by decide⟩ ?_
    refine z_aload_n hJ d_Sx_missed_31 0 rfl ?_
    refine z_get hJ d_Sx_missed_32 hc_Sx f_Sx_16 0 rfl rfl (by decide) ?_
    refine z_iload_n hJ d_Sx_missed_35 2 rfl ?_
    refine z_iconst (v := 1) hJ d_Sx_missed_36 (by decide) ?_
    refine z_iload_n hJ d_Sx_missed_37 1 rfl ?_
    refine z_ishl hJ d_Sx_missed_38 ?_
    refine z_iconst (v := (-1)) hJ d_Sx_missed_39 (by decide) ?_
    refine z_ixor hJ d_Sx_missed_40 ?_
    refine z_iand hJ d_Sx_missed_41 ?_
    refine z_c (q_clr_e (by omega)) ?_
    refine z_callVi hJ (m_Rd_earned (aw := q_clr (q_awk P) j) hP.1 hP.2.1 (q_clr_31 haw)) k_Sx_173 zL_P d_Sx_missed_42 hc_Rd 2 rfl rfl rfl (Nat.le_of_ble_eq_true rfl) ⟨by decide, by decide⟩ ?_
    refine z_isub hJ d_Sx_missed_45 ?_
    exact z_ri hR d_Sx_missed_46 (by simp [p_missed, hq, hcl, c_5]; try rfl) (by simp [p_missed, hq, hcl, c_5])
  · skip
    refine z_aload_n hJ d_Sx_missed_0 0 rfl ?_
    refine z_iload_n hJ d_Sx_missed_1 1 rfl ?_
    refine z_callVi hJ m_Sx_isFellow k_Sx_68 zL.id d_Sx_missed_2 hc_Sx 0 rfl rfl rfl (Nat.le_of_ble_eq_true rfl) ⟨by decide, by decide⟩ ?_
    refine zb_ne hJ d_Sx_missed_5 (fun c_5 => False.elim (by rw [hq] at c_5; exact absurd c_5 (by decide))) (fun c_5 => ?_)
    refine z_aload_n hJ d_Sx_missed_8 0 rfl ?_
    refine z_ldc hJ d_Sx_missed_9 c_Sx_54 ?_
    refine z_callVi hJ m_Sx_tell_0 k_Sx_55 zL.id d_Sx_missed_11 hc_Sx 0 rfl rfl rfl (Nat.le_of_ble_eq_true rfl) ⟨by decide, by decide⟩ ?_
    exact z_ri hR d_Sx_missed_14 (by simp [p_missed, hq, c_5]; try rfl) (by simp [p_missed, hq, c_5])
