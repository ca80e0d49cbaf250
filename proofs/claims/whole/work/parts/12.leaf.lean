set_option maxRecDepth 100000 in
theorem m_Rd_become {g : Nat → Nat → Nat} {b c : Nat → Nat} {P Q : RS}  : zM g y_Rd_become b_Rd_become 2 none 1 [.ref (b 0), .ref (c 0)] (rW g b P ++ rW g c Q) [] (rW g b Q ++ rW g c Q) := by
  refine zMv (lv := [(0, .ref (b 0)), (1, .ref (c 0))]) (by decide) (Nat.le_of_ble_eq_true rfl) rfl (fun J hJ hR => ?_)
  refine z_aload_n hJ d_Rd_become_0 0 rfl ?_
  refine z_aload_n hJ d_Rd_become_1 1 rfl ?_
  refine z_get hJ d_Rd_become_2 hc_Rd f_Rd_9 9 rfl rfl (by decide) ?_
  refine z_put (w' := rW g b (Q.1, P.2.1, P.2.2.1, P.2.2.2.1, P.2.2.2.2.1, P.2.2.2.2.2.1, P.2.2.2.2.2.2.1, P.2.2.2.2.2.2.2.1, P.2.2.2.2.2.2.2.2.1, P.2.2.2.2.2.2.2.2.2.1, P.2.2.2.2.2.2.2.2.2.2.1, P.2.2.2.2.2.2.2.2.2.2.2) ++ rW g c Q) hJ d_Rd_become_5 hc_Rd f_Rd_9 0 rfl rfl rfl rfl (by decide) (Nat.le_of_ble_eq_true rfl) rfl ?_
  refine z_aload_n hJ d_Rd_become_8 0 rfl ?_
  refine z_aload_n hJ d_Rd_become_9 1 rfl ?_
  refine z_get hJ d_Rd_become_10 hc_Rd f_Rd_15 9 rfl rfl (by decide) ?_
  refine z_put (w' := rW g b (Q.1, Q.2.1, P.2.2.1, P.2.2.2.1, P.2.2.2.2.1, P.2.2.2.2.2.1, P.2.2.2.2.2.2.1, P.2.2.2.2.2.2.2.1, P.2.2.2.2.2.2.2.2.1, P.2.2.2.2.2.2.2.2.2.1, P.2.2.2.2.2.2.2.2.2.2.1, P.2.2.2.2.2.2.2.2.2.2.2) ++ rW g c Q) hJ d_Rd_become_13 hc_Rd f_Rd_15 0 rfl rfl rfl rfl (by decide) (Nat.le_of_ble_eq_true rfl) rfl ?_
  refine z_aload_n hJ d_Rd_become_16 0 rfl ?_
  refine z_aload_n hJ d_Rd_become_17 1 rfl ?_
  refine z_get hJ d_Rd_become_18 hc_Rd f_Rd_18 9 rfl rfl (by decide) ?_
  refine z_put (w' := rW g b (Q.1, Q.2.1, Q.2.2.1, P.2.2.2.1, P.2.2.2.2.1, P.2.2.2.2.2.1, P.2.2.2.2.2.2.1, P.2.2.2.2.2.2.2.1, P.2.2.2.2.2.2.2.2.1, P.2.2.2.2.2.2.2.2.2.1, P.2.2.2.2.2.2.2.2.2.2.1, P.2.2.2.2.2.2.2.2.2.2.2) ++ rW g c Q) hJ d_Rd_become_21 hc_Rd f_Rd_18 0 rfl rfl rfl rfl (by decide) (Nat.le_of_ble_eq_true rfl) rfl ?_
  refine z_aload_n hJ d_Rd_become_24 0 rfl ?_
  refine z_aload_n hJ d_Rd_become_25 1 rfl ?_
  refine z_get hJ d_Rd_become_26 hc_Rd f_Rd_21 9 rfl rfl (by decide) ?_
  refine z_put (w' := rW g b (Q.1, Q.2.1, Q.2.2.1, Q.2.2.2.1, P.2.2.2.2.1, P.2.2.2.2.2.1, P.2.2.2.2.2.2.1, P.2.2.2.2.2.2.2.1, P.2.2.2.2.2.2.2.2.1, P.2.2.2.2.2.2.2.2.2.1, P.2.2.2.2.2.2.2.2.2.2.1, P.2.2.2.2.2.2.2.2.2.2.2) ++ rW g c Q) hJ d_Rd_become_29 hc_Rd f_Rd_21 0 rfl rfl rfl rfl (by decide) (Nat.le_of_ble_eq_true rfl) rfl ?_
  refine z_aload_n hJ d_Rd_become_32 1 rfl ?_
  refine z_get hJ d_Rd_become_33 hc_Rd f_Rd_24 9 rfl rfl (by decide) ?_
  refine z_iconst (v := 0) hJ d_Rd_become_36 (by decide) ?_
  refine z_aload_n hJ d_Rd_become_37 0 rfl ?_
  refine z_get hJ d_Rd_become_38 hc_Rd f_Rd_24 0 rfl rfl (by decide) ?_
  refine z_iconst (v := 0) hJ d_Rd_become_41 (by decide) ?_
  refine z_bipush (v := 7) hJ d_Rd_become_42 (by decide) ?_
  refine z_copyi (w' := rW g b (Q.1, Q.2.1, Q.2.2.1, Q.2.2.2.1, va_cpy Q.2.2.2.2.1 P.2.2.2.2.1 0 0 7, P.2.2.2.2.2.1, P.2.2.2.2.2.2.1, P.2.2.2.2.2.2.2.1, P.2.2.2.2.2.2.2.2.1, P.2.2.2.2.2.2.2.2.2.1, P.2.2.2.2.2.2.2.2.2.2.1, P.2.2.2.2.2.2.2.2.2.2.2) ++ rW g c Q) hJ d_Rd_become_44 k_Rd_49 10 1 rfl rfl (by decide) (by decide) (by decide) (by decide) (by decide) (Nat.le_of_ble_eq_true rfl) ⟨by decide, by decide⟩ rfl ?_
  refine z_arri (w' := rW g b (Q.1, Q.2.1, Q.2.2.1, Q.2.2.2.1, Q.2.2.2.2.1, P.2.2.2.2.2.1, P.2.2.2.2.2.2.1, P.2.2.2.2.2.2.2.1, P.2.2.2.2.2.2.2.2.1, P.2.2.2.2.2.2.2.2.2.1, P.2.2.2.2.2.2.2.2.2.2.1, P.2.2.2.2.2.2.2.2.2.2.2) ++ rW g c Q) hJ 1 rfl (fun j hj => (pk_cpy_in (Nat.zero_le _) (by omega)).trans (by rw [Nat.sub_zero, Nat.zero_add])) rfl ?_
  refine z_aload_n hJ d_Rd_become_47 1 rfl ?_
  refine z_get hJ d_Rd_become_48 hc_Rd f_Rd_28 9 rfl rfl (by decide) ?_
  refine z_iconst (v := 0) hJ d_Rd_become_51 (by decide) ?_
  refine z_aload_n hJ d_Rd_become_52 0 rfl ?_
  refine z_get hJ d_Rd_become_53 hc_Rd f_Rd_28 0 rfl rfl (by decide) ?_
  refine z_iconst (v := 0) hJ d_Rd_become_56 (by decide) ?_
  refine z_bipush (v := 7) hJ d_Rd_become_57 (by decide) ?_
  refine z_copyi (w' := rW g b (Q.1, Q.2.1, Q.2.2.1, Q.2.2.2.1, Q.2.2.2.2.1, va_cpy Q.2.2.2.2.2.1 P.2.2.2.2.2.1 0 0 7, P.2.2.2.2.2.2.1, P.2.2.2.2.2.2.2.1, P.2.2.2.2.2.2.2.2.1, P.2.2.2.2.2.2.2.2.2.1, P.2.2.2.2.2.2.2.2.2.2.1, P.2.2.2.2.2.2.2.2.2.2.2) ++ rW g c Q) hJ d_Rd_become_59 k_Rd_49 11 2 rfl rfl (by decide) (by decide) (by decide) (by decide) (by decide) (Nat.le_of_ble_eq_true rfl) ⟨by decide, by decide⟩ rfl ?_
  refine z_arri (w' := rW g b (Q.1, Q.2.1, Q.2.2.1, Q.2.2.2.1, Q.2.2.2.2.1, Q.2.2.2.2.2.1, P.2.2.2.2.2.2.1, P.2.2.2.2.2.2.2.1, P.2.2.2.2.2.2.2.2.1, P.2.2.2.2.2.2.2.2.2.1, P.2.2.2.2.2.2.2.2.2.2.1, P.2.2.2.2.2.2.2.2.2.2.2) ++ rW g c Q) hJ 2 rfl (fun j hj => (pk_cpy_in (Nat.zero_le _) (by omega)).trans (by rw [Nat.sub_zero, Nat.zero_add])) rfl ?_
  refine z_aload_n hJ d_Rd_become_62 1 rfl ?_
  refine z_get hJ d_Rd_become_63 hc_Rd f_Rd_31 9 rfl rfl (by decide) ?_
  refine z_iconst (v := 0) hJ d_Rd_become_66 (by decide) ?_
  refine z_aload_n hJ d_Rd_become_67 0 rfl ?_
  refine z_get hJ d_Rd_become_68 hc_Rd f_Rd_31 0 rfl rfl (by decide) ?_
  refine z_iconst (v := 0) hJ d_Rd_become_71 (by decide) ?_
  refine z_bipush (v := 7) hJ d_Rd_become_72 (by decide) ?_
  refine z_copyi (w' := rW g b (Q.1, Q.2.1, Q.2.2.1, Q.2.2.2.1, Q.2.2.2.2.1, Q.2.2.2.2.2.1, va_cpy Q.2.2.2.2.2.2.1 P.2.2.2.2.2.2.1 0 0 7, P.2.2.2.2.2.2.2.1, P.2.2.2.2.2.2.2.2.1, P.2.2.2.2.2.2.2.2.2.1, P.2.2.2.2.2.2.2.2.2.2.1, P.2.2.2.2.2.2.2.2.2.2.2) ++ rW g c Q) hJ d_Rd_become_74 k_Rd_49 12 3 rfl rfl (by decide) (by decide) (by decide) (by decide) (by decide) (Nat.le_of_ble_eq_true rfl) ⟨by decide, by decide⟩ rfl ?_
  refine z_arri (w' := rW g b (Q.1, Q.2.1, Q.2.2.1, Q.2.2.2.1, Q.2.2.2.2.1, Q.2.2.2.2.2.1, Q.2.2.2.2.2.2.1, P.2.2.2.2.2.2.2.1, P.2.2.2.2.2.2.2.2.1, P.2.2.2.2.2.2.2.2.2.1, P.2.2.2.2.2.2.2.2.2.2.1, P.2.2.2.2.2.2.2.2.2.2.2) ++ rW g c Q) hJ 3 rfl (fun j hj => (pk_cpy_in (Nat.zero_le _) (by omega)).trans (by rw [Nat.sub_zero, Nat.zero_add])) rfl ?_
  refine z_aload_n hJ d_Rd_become_77 1 rfl ?_
  refine z_get hJ d_Rd_become_78 hc_Rd f_Rd_34 9 rfl rfl (by decide) ?_
  refine z_iconst (v := 0) hJ d_Rd_become_81 (by decide) ?_
  refine z_aload_n hJ d_Rd_become_82 0 rfl ?_
  refine z_get hJ d_Rd_become_83 hc_Rd f_Rd_34 0 rfl rfl (by decide) ?_
  refine z_iconst (v := 0) hJ d_Rd_become_86 (by decide) ?_
  refine z_bipush (v := 7) hJ d_Rd_become_87 (by decide) ?_
  refine z_copyi (w' := rW g b (Q.1, Q.2.1, Q.2.2.1, Q.2.2.2.1, Q.2.2.2.2.1, Q.2.2.2.2.2.1, Q.2.2.2.2.2.2.1, va_cpy Q.2.2.2.2.2.2.2.1 P.2.2.2.2.2.2.2.1 0 0 7, P.2.2.2.2.2.2.2.2.1, P.2.2.2.2.2.2.2.2.2.1, P.2.2.2.2.2.2.2.2.2.2.1, P.2.2.2.2.2.2.2.2.2.2.2) ++ rW g c Q) hJ d_Rd_become_89 k_Rd_49 13 4 rfl rfl (by decide) (by decide) (by decide) (by decide) (by decide) (Nat.le_of_ble_eq_true rfl) ⟨by decide, by decide⟩ rfl ?_
  refine z_arri (w' := rW g b (Q.1, Q.2.1, Q.2.2.1, Q.2.2.2.1, Q.2.2.2.2.1, Q.2.2.2.2.2.1, Q.2.2.2.2.2.2.1, Q.2.2.2.2.2.2.2.1, P.2.2.2.2.2.2.2.2.1, P.2.2.2.2.2.2.2.2.2.1, P.2.2.2.2.2.2.2.2.2.2.1, P.2.2.2.2.2.2.2.2.2.2.2) ++ rW g c Q) hJ 4 rfl (fun j hj => (pk_cpy_in (Nat.zero_le _) (by omega)).trans (by rw [Nat.sub_zero, Nat.zero_add])) rfl ?_
  refine z_aload_n hJ d_Rd_become_92 1 rfl ?_
  refine z_get hJ d_Rd_become_93 hc_Rd f_Rd_37 9 rfl rfl (by decide) ?_
  refine z_iconst (v := 0) hJ d_Rd_become_96 (by decide) ?_
  refine z_aload_n hJ d_Rd_become_97 0 rfl ?_
  refine z_get hJ d_Rd_become_98 hc_Rd f_Rd_37 0 rfl rfl (by decide) ?_
  refine z_iconst (v := 0) hJ d_Rd_become_101 (by decide) ?_
  refine z_bipush (v := 8) hJ d_Rd_become_102 (by decide) ?_
  refine z_copyi (w' := rW g b (Q.1, Q.2.1, Q.2.2.1, Q.2.2.2.1, Q.2.2.2.2.1, Q.2.2.2.2.2.1, Q.2.2.2.2.2.2.1, Q.2.2.2.2.2.2.2.1, va_cpy Q.2.2.2.2.2.2.2.2.1 P.2.2.2.2.2.2.2.2.1 0 0 8, P.2.2.2.2.2.2.2.2.2.1, P.2.2.2.2.2.2.2.2.2.2.1, P.2.2.2.2.2.2.2.2.2.2.2) ++ rW g c Q) hJ d_Rd_become_104 k_Rd_49 14 5 rfl rfl (by decide) (by decide) (by decide) (by decide) (by decide) (Nat.le_of_ble_eq_true rfl) ⟨by decide, by decide⟩ rfl ?_
  refine z_arri (w' := rW g b (Q.1, Q.2.1, Q.2.2.1, Q.2.2.2.1, Q.2.2.2.2.1, Q.2.2.2.2.2.1, Q.2.2.2.2.2.2.1, Q.2.2.2.2.2.2.2.1, Q.2.2.2.2.2.2.2.2.1, P.2.2.2.2.2.2.2.2.2.1, P.2.2.2.2.2.2.2.2.2.2.1, P.2.2.2.2.2.2.2.2.2.2.2) ++ rW g c Q) hJ 5 rfl (fun j hj => (pk_cpy_in (Nat.zero_le _) (by omega)).trans (by rw [Nat.sub_zero, Nat.zero_add])) rfl ?_
  refine z_aload_n hJ d_Rd_become_107 1 rfl ?_
  refine z_get hJ d_Rd_become_108 hc_Rd f_Rd_40 9 rfl rfl (by decide) ?_
  refine z_iconst (v := 0) hJ d_Rd_become_111 (by decide) ?_
  refine z_aload_n hJ d_Rd_become_112 0 rfl ?_
  refine z_get hJ d_Rd_become_113 hc_Rd f_Rd_40 0 rfl rfl (by decide) ?_
  refine z_iconst (v := 0) hJ d_Rd_become_116 (by decide) ?_
  refine z_bipush (v := 8) hJ d_Rd_become_117 (by decide) ?_
  refine z_copyi (w' := rW g b (Q.1, Q.2.1, Q.2.2.1, Q.2.2.2.1, Q.2.2.2.2.1, Q.2.2.2.2.2.1, Q.2.2.2.2.2.2.1, Q.2.2.2.2.2.2.2.1, Q.2.2.2.2.2.2.2.2.1, va_cpy Q.2.2.2.2.2.2.2.2.2.1 P.2.2.2.2.2.2.2.2.2.1 0 0 8, P.2.2.2.2.2.2.2.2.2.2.1, P.2.2.2.2.2.2.2.2.2.2.2) ++ rW g c Q) hJ d_Rd_become_119 k_Rd_49 15 6 rfl rfl (by decide) (by decide) (by decide) (by decide) (by decide) (Nat.le_of_ble_eq_true rfl) ⟨by decide, by decide⟩ rfl ?_
  refine z_arri (w' := rW g b (Q.1, Q.2.1, Q.2.2.1, Q.2.2.2.1, Q.2.2.2.2.1, Q.2.2.2.2.2.1, Q.2.2.2.2.2.2.1, Q.2.2.2.2.2.2.2.1, Q.2.2.2.2.2.2.2.2.1, Q.2.2.2.2.2.2.2.2.2.1, P.2.2.2.2.2.2.2.2.2.2.1, P.2.2.2.2.2.2.2.2.2.2.2) ++ rW g c Q) hJ 6 rfl (fun j hj => (pk_cpy_in (Nat.zero_le _) (by omega)).trans (by rw [Nat.sub_zero, Nat.zero_add])) rfl ?_
  refine z_aload_n hJ d_Rd_become_122 1 rfl ?_
  refine z_get hJ d_Rd_become_123 hc_Rd f_Rd_43 9 rfl rfl (by decide) ?_
  refine z_iconst (v := 0) hJ d_Rd_become_126 (by decide) ?_
  refine z_aload_n hJ d_Rd_become_127 0 rfl ?_
  refine z_get hJ d_Rd_become_128 hc_Rd f_Rd_43 0 rfl rfl (by decide) ?_
  refine z_iconst (v := 0) hJ d_Rd_become_131 (by decide) ?_
  refine z_bipush (v := 8) hJ d_Rd_become_132 (by decide) ?_
  refine z_copyi (w' := rW g b (Q.1, Q.2.1, Q.2.2.1, Q.2.2.2.1, Q.2.2.2.2.1, Q.2.2.2.2.2.1, Q.2.2.2.2.2.2.1, Q.2.2.2.2.2.2.2.1, Q.2.2.2.2.2.2.2.2.1, Q.2.2.2.2.2.2.2.2.2.1, va_cpy Q.2.2.2.2.2.2.2.2.2.2.1 P.2.2.2.2.2.2.2.2.2.2.1 0 0 8, P.2.2.2.2.2.2.2.2.2.2.2) ++ rW g c Q) hJ d_Rd_become_134 k_Rd_49 16 7 rfl rfl (by decide) (by decide) (by decide) (by decide) (by decide) (Nat.le_of_ble_eq_true rfl) ⟨by decide, by decide⟩ rfl ?_
  refine z_arri (w' := rW g b (Q.1, Q.2.1, Q.2.2.1, Q.2.2.2.1, Q.2.2.2.2.1, Q.2.2.2.2.2.1, Q.2.2.2.2.2.2.1, Q.2.2.2.2.2.2.2.1, Q.2.2.2.2.2.2.2.2.1, Q.2.2.2.2.2.2.2.2.2.1, Q.2.2.2.2.2.2.2.2.2.2.1, P.2.2.2.2.2.2.2.2.2.2.2) ++ rW g c Q) hJ 7 rfl (fun j hj => (pk_cpy_in (Nat.zero_le _) (by omega)).trans (by rw [Nat.sub_zero, Nat.zero_add])) rfl ?_
  refine z_aload_n hJ d_Rd_become_137 1 rfl ?_
  refine z_get hJ d_Rd_become_138 hc_Rd f_Rd_46 9 rfl rfl (by decide) ?_
  refine z_iconst (v := 0) hJ d_Rd_become_141 (by decide) ?_
  refine z_aload_n hJ d_Rd_become_142 0 rfl ?_
  refine z_get hJ d_Rd_become_143 hc_Rd f_Rd_46 0 rfl rfl (by decide) ?_
  refine z_iconst (v := 0) hJ d_Rd_become_146 (by decide) ?_
  refine z_bipush (v := 8) hJ d_Rd_become_147 (by decide) ?_
  refine z_copyi (w' := rW g b (Q.1, Q.2.1, Q.2.2.1, Q.2.2.2.1, Q.2.2.2.2.1, Q.2.2.2.2.2.1, Q.2.2.2.2.2.2.1, Q.2.2.2.2.2.2.2.1, Q.2.2.2.2.2.2.2.2.1, Q.2.2.2.2.2.2.2.2.2.1, Q.2.2.2.2.2.2.2.2.2.2.1, va_cpy Q.2.2.2.2.2.2.2.2.2.2.2 P.2.2.2.2.2.2.2.2.2.2.2 0 0 8) ++ rW g c Q) hJ d_Rd_become_149 k_Rd_49 17 8 rfl rfl (by decide) (by decide) (by decide) (by decide) (by decide) (Nat.le_of_ble_eq_true rfl) ⟨by decide, by decide⟩ rfl ?_
  refine z_arri (w' := rW g b (Q.1, Q.2.1, Q.2.2.1, Q.2.2.2.1, Q.2.2.2.2.1, Q.2.2.2.2.2.1, Q.2.2.2.2.2.2.1, Q.2.2.2.2.2.2.2.1, Q.2.2.2.2.2.2.2.2.1, Q.2.2.2.2.2.2.2.2.2.1, Q.2.2.2.2.2.2.2.2.2.2.1, Q.2.2.2.2.2.2.2.2.2.2.2) ++ rW g c Q) hJ 8 rfl (fun j hj => (pk_cpy_in (Nat.zero_le _) (by omega)).trans (by rw [Nat.sub_zero, Nat.zero_add])) rfl ?_
  exact z_rv hR d_Rd_become_152 rfl
def q_ush (x k : Int32) : Int32 := (x.toUInt32 >>> (k.toUInt32 &&& Int32.toUInt32 31)).toInt32
def q_bc1 (x : Int32) : Int32 := x - (q_ush x 1 &&& 1431655765)
def q_bc2 (a : Int32) : Int32 := (a &&& 858993459) + (q_ush a 2 &&& 858993459)
def q_bc3 (b : Int32) : Int32 := (b + q_ush b 4) &&& 252645135
def q_bc4 (c : Int32) : Int32 := c + q_ush c 8
def q_bc5 (d : Int32) : Int32 := d + q_ush d 16
def q_bc (x : Int32) : Int32 := q_bc5 (q_bc4 (q_bc3 (q_bc2 (q_bc1 x)))) &&& 63
set_option maxRecDepth 100000 in
theorem m_In_bitCount {g : Nat → Nat → Nat} {x : Int32}  : zM g y_In_bitCount b_In_bitCount 1 (some .int) 0 [.int x] ([]) [.int (q_bc x)] ([]) := by
  refine zMi (lv := [(0, .int x)]) (by decide) (Nat.le_of_ble_eq_true rfl) rfl (fun J hJ hR => ?_)
  refine z_iload_n hJ d_In_bitCount_0 0 rfl ?_
  refine z_iload_n hJ d_In_bitCount_1 0 rfl ?_
  refine z_iconst (v := 1) hJ d_In_bitCount_2 (by decide) ?_
  refine z_iushr hJ d_In_bitCount_3 ?_
  refine z_ldcw hJ d_In_bitCount_4 c_In_265 ?_
  refine z_iand hJ d_In_bitCount_7 ?_
  refine z_isub hJ d_In_bitCount_8 ?_
  refine z_c (y := q_bc1 _) rfl ?_
  refine z_istore_n (lv' := [(0, _)]) hJ d_In_bitCount_9 (by decide) rfl ?_
  refine z_iload_n hJ d_In_bitCount_10 0 rfl ?_
  refine z_ldcw hJ d_In_bitCount_11 c_In_266 ?_
  refine z_iand hJ d_In_bitCount_14 ?_
  refine z_iload_n hJ d_In_bitCount_15 0 rfl ?_
  refine z_iconst (v := 2) hJ d_In_bitCount_16 (by decide) ?_
  refine z_iushr hJ d_In_bitCount_17 ?_
  refine z_ldcw hJ d_In_bitCount_18 c_In_266 ?_
  refine z_iand hJ d_In_bitCount_21 ?_
  refine z_iadd hJ d_In_bitCount_22 ?_
  refine z_c (y := q_bc2 _) rfl ?_
  refine z_istore_n (lv' := [(0, _)]) hJ d_In_bitCount_23 (by decide) rfl ?_
  refine z_iload_n hJ d_In_bitCount_24 0 rfl ?_
  refine z_iload_n hJ d_In_bitCount_25 0 rfl ?_
  refine z_iconst (v := 4) hJ d_In_bitCount_26 (by decide) ?_
  refine z_iushr hJ d_In_bitCount_27 ?_
  refine z_iadd hJ d_In_bitCount_28 ?_
  refine z_ldcw hJ d_In_bitCount_29 c_In_267 ?_
  refine z_iand hJ d_In_bitCount_32 ?_
  refine z_c (y := q_bc3 _) rfl ?_
  refine z_istore_n (lv' := [(0, _)]) hJ d_In_bitCount_33 (by decide) rfl ?_
  refine z_iload_n hJ d_In_bitCount_34 0 rfl ?_
  refine z_iload_n hJ d_In_bitCount_35 0 rfl ?_
  refine z_bipush (v := 8) hJ d_In_bitCount_36 (by decide) ?_
  refine z_iushr hJ d_In_bitCount_38 ?_
  refine z_iadd hJ d_In_bitCount_39 ?_
  refine z_c (y := q_bc4 _) rfl ?_
  refine z_istore_n (lv' := [(0, _)]) hJ d_In_bitCount_40 (by decide) rfl ?_
  refine z_iload_n hJ d_In_bitCount_41 0 rfl ?_
  refine z_iload_n hJ d_In_bitCount_42 0 rfl ?_
  refine z_bipush (v := 16) hJ d_In_bitCount_43 (by decide) ?_
  refine z_iushr hJ d_In_bitCount_45 ?_
  refine z_iadd hJ d_In_bitCount_46 ?_
  refine z_c (y := q_bc5 _) rfl ?_
  refine z_istore_n (lv' := [(0, _)]) hJ d_In_bitCount_47 (by decide) rfl ?_
  refine z_iload_n hJ d_In_bitCount_48 0 rfl ?_
  refine z_bipush (v := 63) hJ d_In_bitCount_49 (by decide) ?_
  refine z_iand hJ d_In_bitCount_51 ?_
  exact z_ri hR d_In_bitCount_52 rfl rfl
set_option maxRecDepth 100000 in
theorem m_Ar_fill {g : Nat → Nat → Nat} {a : Nat} {f : Nat → Int64} {v : Int64}  : zM g y_Ar_fill b_Ar_fill 5 none 0 [.ref a, .long v] ([(a, .inl (g 0 1, 40, .inr (.inl f)))]) [] ([(a, .inl (g 0 1, 40, .inr (.inl (fun _ => v))))]) := by
  refine zMv (lv := [(0, .ref a), (1, .long v)]) (by decide) (Nat.le_of_ble_eq_true rfl) rfl (fun J hJ hR => ?_)
  refine z_iconst (v := 0) hJ d_Ar_fill_0 (by decide) ?_
  refine z_istore_n (lv' := [(0, _), (1, _), (3, _)]) hJ d_Ar_fill_1 (by decide) rfl ?_
  refine z_aload_n hJ d_Ar_fill_2 0 rfl ?_
  refine z_alen hJ d_Ar_fill_3 0 1 rfl rfl rfl ?_
  refine z_istore (lv' := [(0, _), (1, _), (3, _), (4, _)]) hJ d_Ar_fill_4 (by decide) rfl ?_
  have L6 : ∀ j : Nat, j ≤ 40 → J ([(a, .inl (g 0 1, 40, .inr (.inl (fun k => if k < j then v else f k))))]) 6 [(0, .ref a), (1, .long v), (3, .int (nI j)), (4, .int (nI 40))] [] := by
    refine zloop (40) (fun j hjN ih => ?_)
    refine z_iload_n hJ d_Ar_fill_6 2 rfl ?_
    refine z_iload hJ d_Ar_fill_7 3 rfl ?_
    refine z_icmp_ge hJ d_Ar_fill_9 (fun c_9 => ?_) (fun c_9 => ?_)
    · skip
      have h_9 : 40 ≤ j := by
        have e := nI_leI (a := 40) (b := j) (by omega) (by omega)
        exact e.mp c_9
      refine z_arrl (f' := fun _ => v) (w' := [(a, .inl (g 0 1, 40, .inr (.inl (fun _ => v))))]) hJ 0 rfl (fun k hk => if_pos (by omega)) rfl ?_
      exact z_rv hR d_Ar_fill_22 rfl
    · skip
      have h_9 : ¬ (40 ≤ j) := by
        have e := nI_leI (a := 40) (b := j) (by omega) (by omega)
        exact fun q => c_9 (e.mpr q)
      refine z_aload_n hJ d_Ar_fill_12 0 rfl ?_
      refine z_iload_n hJ d_Ar_fill_13 2 rfl ?_
      refine z_lload_n hJ d_Ar_fill_14 1 rfl ?_
      refine z_last (w' := [(a, .inl (g 0 1, 40, .inr (.inl (vp_updL (fun k => if k < j then v else f k) (j) v))))]) hJ d_Ar_fill_15 0 (j) rfl rfl (by omega) (by decide) rfl ?_
      refine z_iinc (v := nI (j + 1)) (lv' := [(0, _), (1, _), (3, _), (4, _)]) hJ d_Ar_fill_16 2 rfl (zinc _) (by decide) rfl ?_
      refine z_goto hJ d_Ar_fill_19 ?_
      have e := ih (by omega)
      refine z_w ?_ e
      simp only [List.cons.injEq, Prod.mk.injEq, true_and, and_true, Sum.inl.injEq, Sum.inr.injEq]
      funext k
      unfold vp_updL
      by_cases h1 : k = j
      · rw [if_pos h1, if_pos (by omega)]
      · rw [if_neg h1]
        dsimp only
        by_cases h2 : k < j
        · rw [if_pos h2, if_pos (by omega)]
        · rw [if_neg h2, if_neg (by omega)]
  have e := L6 0 (Nat.zero_le _)
  simp only [Nat.not_lt_zero, if_false] at e
  exact e
set_option maxRecDepth 100000 in
theorem m_St_coder {g : Nat → Nat → Nat} {i : Nat} (hi : i < 20) : zM g y_St_coder b_St_coder 1 (some .byte) 0 [.ref (g 1 i)] ([]) [.int 0] ([]) := by
  refine zMbt rfl (lv := [(0, .ref (g 1 i))]) (by decide) (Nat.le_of_ble_eq_true rfl) rfl (fun J hJ hR => ?_)
  refine z_gsC hJ d_St_coder_0 f_St_38 ?_
  refine z_if_eq hJ d_St_coder_3 (fun c => absurd c (by decide)) (fun _ => ?_)
  refine z_aload_n hJ d_St_coder_6 0 rfl ?_
  refine z_tcod hJ d_St_coder_7 f_St_15 hi ?_
  refine z_goto hJ d_St_coder_10 ?_
  exact z_ri hR d_St_coder_14 rfl rfl
set_option maxRecDepth 100000 in
theorem m_St_isLatin1 {g : Nat → Nat → Nat} {i : Nat} (hi : i < 20) : zM g y_St_isLatin1 b_St_isLatin1 1 (some .boolean) 0 [.ref (g 1 i)] ([]) [.int (zB true)] ([]) := by
  refine zMz (lv := [(0, .ref (g 1 i))]) (by decide) (Nat.le_of_ble_eq_true rfl) rfl (fun J hJ hR => ?_)
  refine z_gsC hJ d_St_isLatin1_0 f_St_38 ?_
  refine z_if_eq hJ d_St_isLatin1_3 (fun c => absurd c (by decide)) (fun _ => ?_)
  refine z_aload_n hJ d_St_isLatin1_6 0 rfl ?_
  refine z_tcod hJ d_St_isLatin1_7 f_St_15 hi ?_
  refine z_if_ne hJ d_St_isLatin1_10 (fun c => absurd c (by decide)) (fun _ => ?_)
  refine z_iconst (v := 1) hJ d_St_isLatin1_13 (by decide) ?_
  refine z_goto hJ d_St_isLatin1_14 ?_
  exact z_ri hR d_St_isLatin1_18 rfl rfl
set_option maxRecDepth 100000 in
theorem m_St_length {g : Nat → Nat → Nat} {i : Nat} (hi : i < 20) : zM g y_St_length b_St_length 1 (some .int) 1 [.ref (g 1 i)] ([]) [.int (nI (zlen.getD i 0))] ([]) := by
  refine zMi (lv := [(0, .ref (g 1 i))]) (by decide) (Nat.le_of_ble_eq_true rfl) rfl (fun J hJ hR => ?_)
  refine z_aload_n hJ d_St_length_0 0 rfl ?_
  refine z_tval hJ d_St_length_1 f_St_9 hi ?_
  refine z_tlen hJ d_St_length_4 hi rfl ?_
  refine z_aload_n hJ d_St_length_5 0 rfl ?_
  refine z_callTi hJ (m_St_coder hi) k_St_335 rfl hi zL.nil d_St_length_6 rfl rfl (Nat.le_of_ble_eq_true rfl) ⟨by decide, by decide⟩ ?_
  refine z_ishr hJ d_St_length_9 ?_
  exact z_ri hR d_St_length_10 (sb_shr0 _) rfl
set_option maxRecDepth 100000 in
theorem m_Pr_checkIndex_n {g : Nat → Nat → Nat} {k n : Nat} (hk : k < n) (hn : n < 2 ^ 31) : zM g y_Pr_checkIndex b_Pr_checkIndex 3 (some .int) 0 [.int (nI k), .int (nI n), .null] ([]) [.int (nI k)] ([]) := by
  refine zMi (lv := [(0, .int (nI k)), (1, .int (nI n)), (2, .null)]) (by decide) (Nat.le_of_ble_eq_true rfl) rfl (fun J hJ hR => ?_)
  refine z_iload_n hJ d_Pr_checkIndex_0 0 rfl ?_
  refine z_if_lt hJ d_Pr_checkIndex_1 (fun c_1 => ?_) (fun c_1 => ?_)
  · skip
    have h_1 : k < 0 := by
      have e := nI_ltI (a := k) (b := 0) (by omega) (by omega)
      exact e.mp c_1
    exact absurd h_1 (by omega)
  · skip
    have h_1 : ¬ (k < 0) := by
      have e := nI_ltI (a := k) (b := 0) (by omega) (by omega)
      exact fun q => c_1 (e.mpr q)
    refine z_iload_n hJ d_Pr_checkIndex_4 0 rfl ?_
    refine z_iload_n hJ d_Pr_checkIndex_5 1 rfl ?_
    refine z_icmp_lt hJ d_Pr_checkIndex_6 (fun c_6 => ?_) (fun c_6 => ?_)
    · skip
      have h_6 : k < n := by
        have e := nI_ltI (a := k) (b := n) (by omega) (by omega)
        exact e.mp c_6
      refine z_iload_n hJ d_Pr_checkIndex_16 0 rfl ?_
      exact z_ri hR d_Pr_checkIndex_17 rfl rfl
    · skip
      have h_6 : ¬ (k < n) := by
        have e := nI_ltI (a := k) (b := n) (by omega) (by omega)
        exact fun q => c_6 (e.mpr q)
      exact absurd hk h_6
set_option maxRecDepth 100000 in
theorem m_Pr_checkIndex_r {g : Nat → Nat → Nat} {k n t : Nat} (hk : k < n) (hn : n < 2 ^ 31) : zM g y_Pr_checkIndex b_Pr_checkIndex 3 (some .int) 0 [.int (nI k), .int (nI n), .ref t] ([]) [.int (nI k)] ([]) := by
  refine zMi (lv := [(0, .int (nI k)), (1, .int (nI n)), (2, .ref t)]) (by decide) (Nat.le_of_ble_eq_true rfl) rfl (fun J hJ hR => ?_)
  refine z_iload_n hJ d_Pr_checkIndex_0 0 rfl ?_
  refine z_if_lt hJ d_Pr_checkIndex_1 (fun c_1 => ?_) (fun c_1 => ?_)
  · skip
    have h_1 : k < 0 := by
      have e := nI_ltI (a := k) (b := 0) (by omega) (by omega)
      exact e.mp c_1
    exact absurd h_1 (by omega)
  · skip
    have h_1 : ¬ (k < 0) := by
      have e := nI_ltI (a := k) (b := 0) (by omega) (by omega)
      exact fun q => c_1 (e.mpr q)
    refine z_iload_n hJ d_Pr_checkIndex_4 0 rfl ?_
    refine z_iload_n hJ d_Pr_checkIndex_5 1 rfl ?_
    refine z_icmp_lt hJ d_Pr_checkIndex_6 (fun c_6 => ?_) (fun c_6 => ?_)
    · skip
      have h_6 : k < n := by
        have e := nI_ltI (a := k) (b := n) (by omega) (by omega)
        exact e.mp c_6
      refine z_iload_n hJ d_Pr_checkIndex_16 0 rfl ?_
      exact z_ri hR d_Pr_checkIndex_17 rfl rfl
    · skip
      have h_6 : ¬ (k < n) := by
        have e := nI_ltI (a := k) (b := n) (by omega) (by omega)
        exact fun q => c_6 (e.mpr q)
      exact absurd hk h_6
set_option maxRecDepth 100000 in
theorem m_St_checkIndex {g : Nat → Nat → Nat} {k n : Nat} (hk : k < n) (hn : n < 2 ^ 31) : zM g y_St_checkIndex b_St_checkIndex 2 none 1 [.int (nI k), .int (nI n)] ([]) [] ([]) := by
  refine zMv (lv := [(0, .int (nI k)), (1, .int (nI n))]) (by decide) (Nat.le_of_ble_eq_true rfl) rfl (fun J hJ hR => ?_)
  refine z_iload_n hJ d_St_checkIndex_0 0 rfl ?_
  refine z_iload_n hJ d_St_checkIndex_1 1 rfl ?_
  refine z_gsQ hJ d_St_checkIndex_2 f_St_1053 ?_ (fun t => ?_)
  · skip
    refine z_callSi hJ (m_Pr_checkIndex_n hk hn) k_St_1059 zL.nil d_St_checkIndex_5 rfl rfl (Nat.le_of_ble_eq_true rfl) ⟨by decide, by decide⟩ ?_
    refine z_pop hJ d_St_checkIndex_8 rfl ?_
    exact z_rv hR d_St_checkIndex_9 rfl
  · skip
    refine z_callSi hJ (m_Pr_checkIndex_r hk hn) k_St_1059 zL.nil d_St_checkIndex_5 rfl rfl (Nat.le_of_ble_eq_true rfl) ⟨by decide, by decide⟩ ?_
    refine z_pop hJ d_St_checkIndex_8 rfl ?_
    exact z_rv hR d_St_checkIndex_9 rfl
set_option maxRecDepth 100000 in
theorem m_Sl_charAt {g : Nat → Nat → Nat} {i k : Nat} (hi : i < 20) (hk : k < zlen.getD i 0) : zM g y_Sl_charAt b_Sl_charAt 2 (some .char) 2 [.ref (g 2 i), .int (nI k)] ([]) [.int (zch i k)] ([]) := by
  refine zMc (zch_n i k) (lv := [(0, .ref (g 2 i)), (1, .int (nI k))]) (by decide) (Nat.le_of_ble_eq_true rfl) rfl (fun J hJ hR => ?_)
  refine z_iload_n hJ d_Sl_charAt_0 1 rfl ?_
  refine z_aload_n hJ d_Sl_charAt_1 0 rfl ?_
  refine z_tlen hJ d_Sl_charAt_2 hi rfl ?_
  refine z_callSv hJ (m_St_checkIndex hk (Nat.lt_of_le_of_lt (zlen_lt hi) (by decide))) k_Sl_9 zL.nil d_Sl_charAt_3 rfl rfl (Nat.le_of_ble_eq_true rfl) ⟨by decide, by decide⟩ ?_
  refine z_aload_n hJ d_Sl_charAt_6 0 rfl ?_
  refine z_iload_n hJ d_Sl_charAt_7 1 rfl ?_
  refine z_tb hJ d_Sl_charAt_8 (k) hi rfl hk (Nat.lt_of_le_of_lt (zlen_lt hi) (by decide)) ?_
  refine z_sipush (v := 255) hJ d_Sl_charAt_9 (by decide) ?_
  refine z_iand hJ d_Sl_charAt_12 ?_
  refine z_i2c hJ d_Sl_charAt_13 (zch_c i k) ?_
  exact z_ri hR d_Sl_charAt_14 rfl rfl
set_option maxRecDepth 100000 in
theorem m_St_charAt {g : Nat → Nat → Nat} {i k : Nat} (hi : i < 20) (hk : k < zlen.getD i 0) : zM g y_St_charAt b_St_charAt 2 (some .char) 3 [.ref (g 1 i), .int (nI k)] ([]) [.int (zch i k)] ([]) := by
  refine zMc (zch_n i k) (lv := [(0, .ref (g 1 i)), (1, .int (nI k))]) (by decide) (Nat.le_of_ble_eq_true rfl) rfl (fun J hJ hR => ?_)
  refine z_aload_n hJ d_St_charAt_0 0 rfl ?_
  refine z_callTi hJ (m_St_isLatin1 hi) k_St_492 rfl hi zL.nil d_St_charAt_1 rfl rfl (Nat.le_of_ble_eq_true rfl) ⟨by decide, by decide⟩ ?_
  refine zb_eq hJ d_St_charAt_4 (fun c_4 => ?_) (fun c_4 => ?_)
  · skip
    exact absurd c_4 (by decide)
  · skip
    refine z_aload_n hJ d_St_charAt_7 0 rfl ?_
    refine z_tval hJ d_St_charAt_8 f_St_9 hi ?_
    refine z_iload_n hJ d_St_charAt_11 1 rfl ?_
    refine z_callSi hJ (m_Sl_charAt hi hk) k_St_495 zL.nil d_St_charAt_12 rfl rfl (Nat.le_of_ble_eq_true rfl) ⟨by decide, by decide⟩ ?_
    exact z_ri hR d_St_charAt_15 rfl rfl
set_option maxRecDepth 100000 in
theorem m_Sh_isMissing {g : Nat → Nat → Nat} {b : Nat → Nat} {S : SS}  : zM g y_Sh_isMissing b_Sh_isMissing 1 (some .boolean) 0 [.ref (b 0)] (sW g b S) [.int (zB (decide (S.1 = 0)))] (sW g b S) := by
  refine zMz (lv := [(0, .ref (b 0))]) (by decide) (Nat.le_of_ble_eq_true rfl) rfl (fun J hJ hR => ?_)
  refine z_aload_n hJ d_Sh_isMissing_0 0 rfl ?_
  refine z_get hJ d_Sh_isMissing_1 hc_Sh f_Sh_9 0 rfl rfl (by decide) ?_
  refine z_if_ne hJ d_Sh_isMissing_4 (fun c_4 => ?_) (fun c_4 => ?_)
  · skip
    refine z_iconst (v := 0) hJ d_Sh_isMissing_11 (by decide) ?_
    exact z_ri hR d_Sh_isMissing_12 (by simp [c_4]; try rfl) rfl
  · skip
    refine z_iconst (v := 1) hJ d_Sh_isMissing_7 (by decide) ?_
    refine z_goto hJ d_Sh_isMissing_8 ?_
    exact z_ri hR d_Sh_isMissing_12 (by simp [c_4]; try rfl) rfl
set_option maxRecDepth 100000 in
theorem m_Sh_begin {g : Nat → Nat → Nat} {b : Nat → Nat} {S : SS} {bt : Int32} {n : Nat}  : zM g y_Sh_begin b_Sh_begin 3 none 1 [.ref (b 0), .int bt, .int (nI n)] (sW g b S) [] (sW g b (q_beg bt n)) := by
  refine zMv (lv := [(0, .ref (b 0)), (1, .int bt), (2, .int (nI n))]) (by decide) (Nat.le_of_ble_eq_true rfl) rfl (fun J hJ hR => ?_)
  refine z_aload_n hJ d_Sh_begin_0 0 rfl ?_
  refine z_iload_n hJ d_Sh_begin_1 1 rfl ?_
  refine z_n (fun x_1 e_1 => ?_)
  refine z_put (w' := sW g b (x_1, S.2.1, S.2.2)) hJ d_Sh_begin_2 hc_Sh f_Sh_9 0 rfl rfl rfl rfl (by decide) (Nat.le_of_ble_eq_true rfl) rfl ?_
  refine z_aload_n hJ d_Sh_begin_5 0 rfl ?_
  refine z_iload_n hJ d_Sh_begin_6 1 rfl ?_
  refine z_if_ne hJ d_Sh_begin_7 (fun c_7 => ?_) (fun c_7 => ?_)
  · skip
    refine z_iload_n hJ d_Sh_begin_14 2 rfl ?_
    refine z_put (w' := sW g b (x_1, n, S.2.2)) hJ d_Sh_begin_15 hc_Sh f_Sh_15 0 rfl rfl rfl rfl (by decide) (Nat.le_of_ble_eq_true rfl) rfl ?_
    refine z_aload_n hJ d_Sh_begin_18 0 rfl ?_
    refine z_get hJ d_Sh_begin_19 hc_Sh f_Sh_18 0 rfl rfl (by decide) ?_
    refine z_lconst (v := 0) hJ d_Sh_begin_22 (by decide) ?_
    refine z_callSv hJ m_Ar_fill k_Sh_22 zL_num d_Sh_begin_23 rfl rfl (Nat.le_of_ble_eq_true rfl) ⟨by decide, by decide⟩ ?_
    subst e_1
    exact z_rv hR d_Sh_begin_26 (by simp [q_beg, c_7])
  · skip
    refine z_iconst (v := 0) hJ d_Sh_begin_10 (by decide) ?_
    refine z_goto hJ d_Sh_begin_11 ?_
    refine z_put (w' := sW g b (x_1, 0, S.2.2)) hJ d_Sh_begin_15 hc_Sh f_Sh_15 0 rfl rfl rfl rfl (by decide) (Nat.le_of_ble_eq_true rfl) rfl ?_
    refine z_aload_n hJ d_Sh_begin_18 0 rfl ?_
    refine z_get hJ d_Sh_begin_19 hc_Sh f_Sh_18 0 rfl rfl (by decide) ?_
    refine z_lconst (v := 0) hJ d_Sh_begin_22 (by decide) ?_
    refine z_callSv hJ m_Ar_fill k_Sh_22 zL_num d_Sh_begin_23 rfl rfl (Nat.le_of_ble_eq_true rfl) ⟨by decide, by decide⟩ ?_
    subst e_1
    exact z_rv hR d_Sh_begin_26 (by simp [q_beg, c_7])
set_option maxRecDepth 100000 in
theorem m_Sh_put {g : Nat → Nat → Nat} {b : Nat → Nat} {S : SS} {i : Nat} {v : Int64} (hi : i < 40) : zM g y_Sh_put b_Sh_put 4 none 0 [.ref (b 0), .int (nI i), .long v] (sW g b S) [] (sW g b (S.1, S.2.1, vp_updL S.2.2 i (q_nar S.1 v))) := by
  refine zMv (lv := [(0, .ref (b 0)), (1, .int (nI i)), (2, .long v)]) (by decide) (Nat.le_of_ble_eq_true rfl) rfl (fun J hJ hR => ?_)
  refine z_aload_n hJ d_Sh_put_0 0 rfl ?_
  refine z_get hJ d_Sh_put_1 hc_Sh f_Sh_18 0 rfl rfl (by decide) ?_
  refine z_iload_n hJ d_Sh_put_4 1 rfl ?_
  refine z_aload_n hJ d_Sh_put_5 0 rfl ?_
  refine z_get hJ d_Sh_put_6 hc_Sh f_Sh_9 0 rfl rfl (by decide) ?_
  refine z_bipush (v := 8) hJ d_Sh_put_9 (by decide) ?_
  refine z_icmp_ne hJ d_Sh_put_11 (fun c_11 => ?_) (fun c_11 => ?_)
  · skip
    refine z_aload_n hJ d_Sh_put_21 0 rfl ?_
    refine z_get hJ d_Sh_put_22 hc_Sh f_Sh_9 0 rfl rfl (by decide) ?_
    refine z_bipush (v := 16) hJ d_Sh_put_25 (by decide) ?_
    refine z_icmp_ne hJ d_Sh_put_27 (fun c_27 => ?_) (fun c_27 => ?_)
    · skip
      refine z_lload_n hJ d_Sh_put_37 2 rfl ?_
      refine z_nl (fun x_1 e_1 => ?_)
      refine z_last (w' := sW g b (S.1, S.2.1, vp_updL S.2.2 (i) x_1)) hJ d_Sh_put_38 1 (i) rfl rfl (by omega) (by decide) rfl ?_
      subst e_1
      exact z_rv hR d_Sh_put_39 (by simp [q_nar, c_11, c_27])
    · skip
      refine z_lload_n hJ d_Sh_put_30 2 rfl ?_
      refine z_l2i hJ d_Sh_put_31 ?_
      refine z_i2s hJ d_Sh_put_32 ?_
      refine z_i2l hJ d_Sh_put_33 ?_
      refine z_goto hJ d_Sh_put_34 ?_
      refine z_nl (fun x_2 e_2 => ?_)
      refine z_last (w' := sW g b (S.1, S.2.1, vp_updL S.2.2 (i) x_2)) hJ d_Sh_put_38 1 (i) rfl rfl (by omega) (by decide) rfl ?_
      subst e_2
      exact z_rv hR d_Sh_put_39 (by simp [q_nar, c_11, c_27])
  · skip
    refine z_lload_n hJ d_Sh_put_14 2 rfl ?_
    refine z_l2i hJ d_Sh_put_15 ?_
    refine z_i2b hJ d_Sh_put_16 ?_
    refine z_i2l hJ d_Sh_put_17 ?_
    refine z_goto hJ d_Sh_put_18 ?_
    refine z_nl (fun x_3 e_3 => ?_)
    refine z_last (w' := sW g b (S.1, S.2.1, vp_updL S.2.2 (i) x_3)) hJ d_Sh_put_38 1 (i) rfl rfl (by omega) (by decide) rfl ?_
    subst e_3
    exact z_rv hR d_Sh_put_39 (by simp [q_nar, c_11])
set_option maxRecDepth 100000 in
theorem m_Sh_holds {g : Nat → Nat → Nat} {b : Nat → Nat} {S : SS} {fr n : Int32}  : zM g y_Sh_holds b_Sh_holds 3 (some .boolean) 0 [.ref (b 0), .int fr, .int n] (sW g b S) [.int (zB (q_holds S fr n))] (sW g b S) := by
  refine zMz (lv := [(0, .ref (b 0)), (1, .int fr), (2, .int n)]) (by decide) (Nat.le_of_ble_eq_true rfl) rfl (fun J hJ hR => ?_)
  refine z_iload_n hJ d_Sh_holds_0 1 rfl ?_
  refine z_if_lt hJ d_Sh_holds_1 (fun c_1 => ?_) (fun c_1 => ?_)
  · skip
    refine z_iconst (v := 0) hJ d_Sh_holds_26 (by decide) ?_
    exact z_ri hR d_Sh_holds_27 (by simp [q_holds, c_1]; try rfl) rfl
  · skip
    refine z_iload_n hJ d_Sh_holds_4 2 rfl ?_
    refine z_if_lt hJ d_Sh_holds_5 (fun c_5 => ?_) (fun c_5 => ?_)
    · skip
      refine z_iconst (v := 0) hJ d_Sh_holds_26 (by decide) ?_
      exact z_ri hR d_Sh_holds_27 (by simp [q_holds, c_1, c_5]; try rfl) rfl
    · skip
      refine z_iload_n hJ d_Sh_holds_8 1 rfl ?_
      refine z_i2l hJ d_Sh_holds_9 ?_
      refine z_iload_n hJ d_Sh_holds_10 2 rfl ?_
      refine z_i2l hJ d_Sh_holds_11 ?_
      refine z_ladd hJ d_Sh_holds_12 ?_
      refine z_aload_n hJ d_Sh_holds_13 0 rfl ?_
      refine z_get hJ d_Sh_holds_14 hc_Sh f_Sh_15 0 rfl rfl (by decide) ?_
      refine z_i2l hJ d_Sh_holds_17 ?_
      refine z_lcmp hJ d_Sh_holds_18 ?_
      refine z_if_gt hJ d_Sh_holds_19 (fun c_19 => ?_) (fun c_19 => ?_)
      · skip
        refine z_iconst (v := 0) hJ d_Sh_holds_26 (by decide) ?_
        exact z_ri hR d_Sh_holds_27 (by simp [q_holds, c_1, c_5, c_19]; try rfl) rfl
      · skip
        refine z_iconst (v := 1) hJ d_Sh_holds_22 (by decide) ?_
        refine z_goto hJ d_Sh_holds_23 ?_
        exact z_ri hR d_Sh_holds_27 (by simp [q_holds, c_1, c_5, c_19]; try rfl) rfl
set_option maxRecDepth 100000 in
theorem m_Sh_otherThanZero {g : Nat → Nat → Nat} {b : Nat → Nat} {S : SS} (hs : S.2.1 ≤ 40) : zM g y_Sh_otherThanZero b_Sh_otherThanZero 3 (some .int) 1 [.ref (b 0)] (sW g b S) [.int (nI (q_nz S))] (sW g b S) := by
  refine zMi (lv := [(0, .ref (b 0))]) (by decide) (Nat.le_of_ble_eq_true rfl) rfl (fun J hJ hR => ?_)
  refine z_iconst (v := 0) hJ d_Sh_otherThanZero_0 (by decide) ?_
  refine z_istore_n (lv' := [(0, _), (1, _)]) hJ d_Sh_otherThanZero_1 (by decide) rfl ?_
  refine z_iconst (v := 0) hJ d_Sh_otherThanZero_2 (by decide) ?_
  refine z_istore_n (lv' := [(0, _), (1, _), (2, _)]) hJ d_Sh_otherThanZero_3 (by decide) rfl ?_
  have L4 : ∀ j : Nat, j ≤ min S.2.1 8 → J (sW g b S) 4 [(0, .ref (b 0)), (1, .int (nI (q_mask (fun i => decide (¬ lg_cmp (S.2.2 i) 0 = 0)) j))), (2, .int (nI j))] [] := by
    refine zloop (min S.2.1 8) (fun j hjN ih => ?_)
    refine z_iload_n hJ d_Sh_otherThanZero_4 2 rfl ?_
    refine z_aload_n hJ d_Sh_otherThanZero_5 0 rfl ?_
    refine z_get hJ d_Sh_otherThanZero_6 hc_Sh f_Sh_15 0 rfl rfl (by decide) ?_
    refine z_bipush (v := 8) hJ d_Sh_otherThanZero_9 (by decide) ?_
    refine z_mmin hJ d_Sh_otherThanZero_11 k_Sh_28 (Nat.le_of_ble_eq_true rfl) ⟨by decide, by decide⟩ ?_
    refine z_c (y := q_min _ _) rfl ?_
    refine z_c (zmin8 (by omega)) ?_
    refine z_icmp_ge hJ d_Sh_otherThanZero_14 (fun c_14 => ?_) (fun c_14 => ?_)
    · skip
      have h_14 : (min S.2.1 8) ≤ j := by
        have e := nI_leI (a := (min S.2.1 8)) (b := j) (by omega) (by omega)
        exact e.mp c_14
      obtain rfl : j = min S.2.1 8 := by omega
      refine z_iload_n hJ d_Sh_otherThanZero_40 1 rfl ?_
      exact z_ri hR d_Sh_otherThanZero_41 rfl rfl
    · skip
      have h_14 : ¬ ((min S.2.1 8) ≤ j) := by
        have e := nI_leI (a := (min S.2.1 8)) (b := j) (by omega) (by omega)
        exact fun q => c_14 (e.mpr q)
      refine z_aload_n hJ d_Sh_otherThanZero_17 0 rfl ?_
      refine z_get hJ d_Sh_otherThanZero_18 hc_Sh f_Sh_18 0 rfl rfl (by decide) ?_
      refine z_iload_n hJ d_Sh_otherThanZero_21 2 rfl ?_
      refine z_lald hJ d_Sh_otherThanZero_22 1 (j) rfl rfl (by omega) (by decide) ?_
      refine z_lconst (v := 0) hJ d_Sh_otherThanZero_23 (by decide) ?_
      refine z_lcmp hJ d_Sh_otherThanZero_24 ?_
      refine z_if_eq hJ d_Sh_otherThanZero_25 (fun c_25 => ?_) (fun c_25 => ?_)
      · skip
        refine z_iinc (v := nI (j + 1)) (lv' := [(0, _), (1, _), (2, _)]) hJ d_Sh_otherThanZero_34 2 rfl (zinc _) (by decide) rfl ?_
        refine z_goto hJ d_Sh_otherThanZero_37 ?_
        have e := ih (by omega)
        rw [q_mask_f (by simp [c_25])] at e
        exact e
      · skip
        refine z_iload_n hJ d_Sh_otherThanZero_28 1 rfl ?_
        refine z_iconst (v := 1) hJ d_Sh_otherThanZero_29 (by decide) ?_
        refine z_iload_n hJ d_Sh_otherThanZero_30 2 rfl ?_
        refine z_ishl hJ d_Sh_otherThanZero_31 ?_
        refine z_ior hJ d_Sh_otherThanZero_32 ?_
        refine z_c (q_mask_t (f := fun i => decide (¬ lg_cmp (S.2.2 i) 0 = 0)) (by simp [c_25]) (by omega)) ?_
        refine z_istore_n (lv' := [(0, _), (1, _), (2, _)]) hJ d_Sh_otherThanZero_33 (by decide) rfl ?_
        refine z_iinc (v := nI (j + 1)) (lv' := [(0, _), (1, _), (2, _)]) hJ d_Sh_otherThanZero_34 2 rfl (zinc _) (by decide) rfl ?_
        refine z_goto hJ d_Sh_otherThanZero_37 ?_
        exact ih (by omega)
  exact L4 0 (Nat.zero_le _)
