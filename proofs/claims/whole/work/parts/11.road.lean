set_option maxRecDepth 100000 in
theorem m_Rd_addFellow {g : Nat → Nat → Nat} {b : Nat → Nat} {P : RS} {k m : Int32} (hn : P.2.1 < 7) : zM g y_Rd_addFellow b_Rd_addFellow 4 (some .int) 0 [.ref (b 0), .int k, .int m] (rW g b P) [.int (nI P.2.1)] (rW g b (q_add P k m)) := by
  refine zMi (lv := [(0, .ref (b 0)), (1, .int k), (2, .int m)]) (by decide) (Nat.le_of_ble_eq_true rfl) rfl (fun J hJ hR => ?_)
  refine z_aload_n hJ d_Rd_addFellow_0 0 rfl ?_
  refine z_get hJ d_Rd_addFellow_1 hc_Rd f_Rd_15 0 rfl rfl (by decide) ?_
  refine z_istore_n (lv' := [(0, _), (1, _), (2, _), (3, _)]) hJ d_Rd_addFellow_4 (by decide) rfl ?_
  refine z_aload_n hJ d_Rd_addFellow_5 0 rfl ?_
  refine z_get hJ d_Rd_addFellow_6 hc_Rd f_Rd_24 0 rfl rfl (by decide) ?_
  refine z_iload_n hJ d_Rd_addFellow_9 3 rfl ?_
  refine z_iload_n hJ d_Rd_addFellow_10 1 rfl ?_
  refine z_n (fun x_1 e_1 => ?_)
  refine z_iast (w' := rW g b (P.1, P.2.1, P.2.2.1, P.2.2.2.1, upd P.2.2.2.2.1 (P.2.1) x_1, P.2.2.2.2.2.1, P.2.2.2.2.2.2.1, P.2.2.2.2.2.2.2.1, P.2.2.2.2.2.2.2.2.1, P.2.2.2.2.2.2.2.2.2.1, P.2.2.2.2.2.2.2.2.2.2.1, P.2.2.2.2.2.2.2.2.2.2.2)) hJ d_Rd_addFellow_11 1 (P.2.1) rfl rfl (by omega) (by decide) rfl ?_
  refine z_aload_n hJ d_Rd_addFellow_12 0 rfl ?_
  refine z_get hJ d_Rd_addFellow_13 hc_Rd f_Rd_28 0 rfl rfl (by decide) ?_
  refine z_iload_n hJ d_Rd_addFellow_16 3 rfl ?_
  refine z_iload_n hJ d_Rd_addFellow_17 2 rfl ?_
  refine z_n (fun x_2 e_2 => ?_)
  refine z_iast (w' := rW g b (P.1, P.2.1, P.2.2.1, P.2.2.2.1, upd P.2.2.2.2.1 (P.2.1) x_1, upd P.2.2.2.2.2.1 (P.2.1) x_2, P.2.2.2.2.2.2.1, P.2.2.2.2.2.2.2.1, P.2.2.2.2.2.2.2.2.1, P.2.2.2.2.2.2.2.2.2.1, P.2.2.2.2.2.2.2.2.2.2.1, P.2.2.2.2.2.2.2.2.2.2.2)) hJ d_Rd_addFellow_18 2 (P.2.1) rfl rfl (by omega) (by decide) rfl ?_
  refine z_aload_n hJ d_Rd_addFellow_19 0 rfl ?_
  refine z_get hJ d_Rd_addFellow_20 hc_Rd f_Rd_31 0 rfl rfl (by decide) ?_
  refine z_iload_n hJ d_Rd_addFellow_23 3 rfl ?_
  refine z_iload_n hJ d_Rd_addFellow_24 2 rfl ?_
  refine z_n (fun x_3 e_3 => ?_)
  refine z_iast (w' := rW g b (P.1, P.2.1, P.2.2.1, P.2.2.2.1, upd P.2.2.2.2.1 (P.2.1) x_1, upd P.2.2.2.2.2.1 (P.2.1) x_2, upd P.2.2.2.2.2.2.1 (P.2.1) x_3, P.2.2.2.2.2.2.2.1, P.2.2.2.2.2.2.2.2.1, P.2.2.2.2.2.2.2.2.2.1, P.2.2.2.2.2.2.2.2.2.2.1, P.2.2.2.2.2.2.2.2.2.2.2)) hJ d_Rd_addFellow_25 3 (P.2.1) rfl rfl (by omega) (by decide) rfl ?_
  refine z_aload_n hJ d_Rd_addFellow_26 0 rfl ?_
  refine z_get hJ d_Rd_addFellow_27 hc_Rd f_Rd_34 0 rfl rfl (by decide) ?_
  refine z_iload_n hJ d_Rd_addFellow_30 3 rfl ?_
  refine z_iconst (v := 3) hJ d_Rd_addFellow_31 (by decide) ?_
  refine z_iast (w' := rW g b (P.1, P.2.1, P.2.2.1, P.2.2.2.1, upd P.2.2.2.2.1 (P.2.1) x_1, upd P.2.2.2.2.2.1 (P.2.1) x_2, upd P.2.2.2.2.2.2.1 (P.2.1) x_3, upd P.2.2.2.2.2.2.2.1 (P.2.1) (3), P.2.2.2.2.2.2.2.2.1, P.2.2.2.2.2.2.2.2.2.1, P.2.2.2.2.2.2.2.2.2.2.1, P.2.2.2.2.2.2.2.2.2.2.2)) hJ d_Rd_addFellow_32 4 (P.2.1) rfl rfl (by omega) (by decide) rfl ?_
  refine z_aload_n hJ d_Rd_addFellow_33 0 rfl ?_
  refine z_dup hJ d_Rd_addFellow_34 rfl ?_
  refine z_get hJ d_Rd_addFellow_35 hc_Rd f_Rd_15 0 rfl rfl (by decide) ?_
  refine z_iconst (v := 1) hJ d_Rd_addFellow_38 (by decide) ?_
  refine z_iadd hJ d_Rd_addFellow_39 ?_
  refine z_c (y := nI (P.2.1 + 1)) (nI_1 _) ?_
  refine z_put (w' := rW g b (P.1, P.2.1 + 1, P.2.2.1, P.2.2.2.1, upd P.2.2.2.2.1 (P.2.1) x_1, upd P.2.2.2.2.2.1 (P.2.1) x_2, upd P.2.2.2.2.2.2.1 (P.2.1) x_3, upd P.2.2.2.2.2.2.2.1 (P.2.1) (3), P.2.2.2.2.2.2.2.2.1, P.2.2.2.2.2.2.2.2.2.1, P.2.2.2.2.2.2.2.2.2.2.1, P.2.2.2.2.2.2.2.2.2.2.2)) hJ d_Rd_addFellow_40 hc_Rd f_Rd_15 0 rfl rfl rfl rfl (by decide) (Nat.le_of_ble_eq_true rfl) rfl ?_
  refine z_iload_n hJ d_Rd_addFellow_43 3 rfl ?_
  subst e_1
  subst e_2
  subst e_3
  exact z_ri hR d_Rd_addFellow_44 rfl rfl
set_option maxRecDepth 100000 in
theorem m_Rd_addTask {g : Nat → Nat → Nat} {b : Nat → Nat} {P : RS} {so m ne pa : Int32} (hn : P.2.2.1 < 8) : zM g y_Rd_addTask b_Rd_addTask 6 (some .int) 0 [.ref (b 0), .int so, .int m, .int ne, .int pa] (rW g b P) [.int (nI P.2.2.1)] (rW g b (q_addT P so m ne pa)) := by
  refine zMi (lv := [(0, .ref (b 0)), (1, .int so), (2, .int m), (3, .int ne), (4, .int pa)]) (by decide) (Nat.le_of_ble_eq_true rfl) rfl (fun J hJ hR => ?_)
  refine z_aload_n hJ d_Rd_addTask_0 0 rfl ?_
  refine z_get hJ d_Rd_addTask_1 hc_Rd f_Rd_18 0 rfl rfl (by decide) ?_
  refine z_istore (lv' := [(0, _), (1, _), (2, _), (3, _), (4, _), (5, _)]) hJ d_Rd_addTask_4 (by decide) rfl ?_
  refine z_aload_n hJ d_Rd_addTask_6 0 rfl ?_
  refine z_get hJ d_Rd_addTask_7 hc_Rd f_Rd_37 0 rfl rfl (by decide) ?_
  refine z_iload hJ d_Rd_addTask_10 5 rfl ?_
  refine z_iload_n hJ d_Rd_addTask_12 1 rfl ?_
  refine z_n (fun x_1 e_1 => ?_)
  refine z_iast (w' := rW g b (P.1, P.2.1, P.2.2.1, P.2.2.2.1, P.2.2.2.2.1, P.2.2.2.2.2.1, P.2.2.2.2.2.2.1, P.2.2.2.2.2.2.2.1, upd P.2.2.2.2.2.2.2.2.1 (P.2.2.1) x_1, P.2.2.2.2.2.2.2.2.2.1, P.2.2.2.2.2.2.2.2.2.2.1, P.2.2.2.2.2.2.2.2.2.2.2)) hJ d_Rd_addTask_13 5 (P.2.2.1) rfl rfl (by omega) (by decide) rfl ?_
  refine z_aload_n hJ d_Rd_addTask_14 0 rfl ?_
  refine z_get hJ d_Rd_addTask_15 hc_Rd f_Rd_40 0 rfl rfl (by decide) ?_
  refine z_iload hJ d_Rd_addTask_18 5 rfl ?_
  refine z_iload_n hJ d_Rd_addTask_20 2 rfl ?_
  refine z_n (fun x_2 e_2 => ?_)
  refine z_iast (w' := rW g b (P.1, P.2.1, P.2.2.1, P.2.2.2.1, P.2.2.2.2.1, P.2.2.2.2.2.1, P.2.2.2.2.2.2.1, P.2.2.2.2.2.2.2.1, upd P.2.2.2.2.2.2.2.2.1 (P.2.2.1) x_1, upd P.2.2.2.2.2.2.2.2.2.1 (P.2.2.1) x_2, P.2.2.2.2.2.2.2.2.2.2.1, P.2.2.2.2.2.2.2.2.2.2.2)) hJ d_Rd_addTask_21 6 (P.2.2.1) rfl rfl (by omega) (by decide) rfl ?_
  refine z_aload_n hJ d_Rd_addTask_22 0 rfl ?_
  refine z_get hJ d_Rd_addTask_23 hc_Rd f_Rd_43 0 rfl rfl (by decide) ?_
  refine z_iload hJ d_Rd_addTask_26 5 rfl ?_
  refine z_iload_n hJ d_Rd_addTask_28 3 rfl ?_
  refine z_n (fun x_3 e_3 => ?_)
  refine z_iast (w' := rW g b (P.1, P.2.1, P.2.2.1, P.2.2.2.1, P.2.2.2.2.1, P.2.2.2.2.2.1, P.2.2.2.2.2.2.1, P.2.2.2.2.2.2.2.1, upd P.2.2.2.2.2.2.2.2.1 (P.2.2.1) x_1, upd P.2.2.2.2.2.2.2.2.2.1 (P.2.2.1) x_2, upd P.2.2.2.2.2.2.2.2.2.2.1 (P.2.2.1) x_3, P.2.2.2.2.2.2.2.2.2.2.2)) hJ d_Rd_addTask_29 7 (P.2.2.1) rfl rfl (by omega) (by decide) rfl ?_
  refine z_aload_n hJ d_Rd_addTask_30 0 rfl ?_
  refine z_get hJ d_Rd_addTask_31 hc_Rd f_Rd_46 0 rfl rfl (by decide) ?_
  refine z_iload hJ d_Rd_addTask_34 5 rfl ?_
  refine z_iload hJ d_Rd_addTask_36 4 rfl ?_
  refine z_n (fun x_4 e_4 => ?_)
  refine z_iast (w' := rW g b (P.1, P.2.1, P.2.2.1, P.2.2.2.1, P.2.2.2.2.1, P.2.2.2.2.2.1, P.2.2.2.2.2.2.1, P.2.2.2.2.2.2.2.1, upd P.2.2.2.2.2.2.2.2.1 (P.2.2.1) x_1, upd P.2.2.2.2.2.2.2.2.2.1 (P.2.2.1) x_2, upd P.2.2.2.2.2.2.2.2.2.2.1 (P.2.2.1) x_3, upd P.2.2.2.2.2.2.2.2.2.2.2 (P.2.2.1) x_4)) hJ d_Rd_addTask_38 8 (P.2.2.1) rfl rfl (by omega) (by decide) rfl ?_
  refine z_aload_n hJ d_Rd_addTask_39 0 rfl ?_
  refine z_dup hJ d_Rd_addTask_40 rfl ?_
  refine z_get hJ d_Rd_addTask_41 hc_Rd f_Rd_18 0 rfl rfl (by decide) ?_
  refine z_iconst (v := 1) hJ d_Rd_addTask_44 (by decide) ?_
  refine z_iadd hJ d_Rd_addTask_45 ?_
  refine z_c (y := nI (P.2.2.1 + 1)) (nI_1 _) ?_
  refine z_put (w' := rW g b (P.1, P.2.1, P.2.2.1 + 1, P.2.2.2.1, P.2.2.2.2.1, P.2.2.2.2.2.1, P.2.2.2.2.2.2.1, P.2.2.2.2.2.2.2.1, upd P.2.2.2.2.2.2.2.2.1 (P.2.2.1) x_1, upd P.2.2.2.2.2.2.2.2.2.1 (P.2.2.1) x_2, upd P.2.2.2.2.2.2.2.2.2.2.1 (P.2.2.1) x_3, upd P.2.2.2.2.2.2.2.2.2.2.2 (P.2.2.1) x_4)) hJ d_Rd_addTask_46 hc_Rd f_Rd_18 0 rfl rfl rfl rfl (by decide) (Nat.le_of_ble_eq_true rfl) rfl ?_
  refine z_iload hJ d_Rd_addTask_49 5 rfl ?_
  subst e_1
  subst e_2
  subst e_3
  subst e_4
  exact z_ri hR d_Rd_addTask_51 rfl rfl
set_option maxRecDepth 100000 in
theorem m_Rd_dropTask {g : Nat → Nat → Nat} {b : Nat → Nat} {P : RS} {d : Nat} (hn : P.2.2.1 ≤ 8) (hd : d < P.2.2.1) : zM g y_Rd_dropTask b_Rd_dropTask 3 none 0 [.ref (b 0), .int (nI d)] (rW g b P) [] (rW g b (q_drop P d)) := by
  refine zMv (lv := [(0, .ref (b 0)), (1, .int (nI d))]) (by decide) (Nat.le_of_ble_eq_true rfl) rfl (fun J hJ hR => ?_)
  refine z_aload_n hJ d_Rd_dropTask_0 0 rfl ?_
  refine z_dup hJ d_Rd_dropTask_1 rfl ?_
  refine z_get hJ d_Rd_dropTask_2 hc_Rd f_Rd_18 0 rfl rfl (by decide) ?_
  refine z_iconst (v := 1) hJ d_Rd_dropTask_5 (by decide) ?_
  refine z_isub hJ d_Rd_dropTask_6 ?_
  refine z_c (y := nI (P.2.2.1 - 1)) (zsub1 (by omega)) ?_
  refine z_put (w' := rW g b (P.1, P.2.1, P.2.2.1 - 1, P.2.2.2.1, P.2.2.2.2.1, P.2.2.2.2.2.1, P.2.2.2.2.2.2.1, P.2.2.2.2.2.2.2.1, P.2.2.2.2.2.2.2.2.1, P.2.2.2.2.2.2.2.2.2.1, P.2.2.2.2.2.2.2.2.2.2.1, P.2.2.2.2.2.2.2.2.2.2.2)) hJ d_Rd_dropTask_7 hc_Rd f_Rd_18 0 rfl rfl rfl rfl (by decide) (Nat.le_of_ble_eq_true rfl) rfl ?_
  refine z_iload_n hJ d_Rd_dropTask_10 1 rfl ?_
  refine z_istore_n (lv' := [(0, _), (1, _), (2, _)]) hJ d_Rd_dropTask_11 (by decide) rfl ?_
  have L12 : ∀ j : Nat, j ≤ P.2.2.1 - 1 → d ≤ j → J (rW g b (P.1, P.2.1, P.2.2.1 - 1, P.2.2.2.1, P.2.2.2.2.1, P.2.2.2.2.2.1, P.2.2.2.2.2.2.1, P.2.2.2.2.2.2.2.1, q_shf (rso P) d j, q_shf (rtm P) d j, q_shf (rne P) d j, q_shf (rpa P) d j)) 12 [(0, .ref (b 0)), (1, .int (nI d)), (2, .int (nI j))] [] := by
    refine zloop (P.2.2.1 - 1) (fun j hjN ih => ?_)
    intro hdj
    refine z_iload_n hJ d_Rd_dropTask_12 2 rfl ?_
    refine z_aload_n hJ d_Rd_dropTask_13 0 rfl ?_
    refine z_get hJ d_Rd_dropTask_14 hc_Rd f_Rd_18 0 rfl rfl (by decide) ?_
    refine z_icmp_ge hJ d_Rd_dropTask_17 (fun c_17 => ?_) (fun c_17 => ?_)
    · skip
      have h_17 : (P.2.2.1 - 1) ≤ j := by
        have e := nI_leI (a := (P.2.2.1 - 1)) (b := j) (by omega) (by omega)
        exact e.mp c_17
      obtain rfl : j = P.2.2.1 - 1 := by omega
      exact z_rv hR d_Rd_dropTask_82 rfl
    · skip
      have h_17 : ¬ ((P.2.2.1 - 1) ≤ j) := by
        have e := nI_leI (a := (P.2.2.1 - 1)) (b := j) (by omega) (by omega)
        exact fun q => c_17 (e.mpr q)
      refine z_aload_n hJ d_Rd_dropTask_20 0 rfl ?_
      refine z_get hJ d_Rd_dropTask_21 hc_Rd f_Rd_37 0 rfl rfl (by decide) ?_
      refine z_iload_n hJ d_Rd_dropTask_24 2 rfl ?_
      refine z_aload_n hJ d_Rd_dropTask_25 0 rfl ?_
      refine z_get hJ d_Rd_dropTask_26 hc_Rd f_Rd_37 0 rfl rfl (by decide) ?_
      refine z_iload_n hJ d_Rd_dropTask_29 2 rfl ?_
      refine z_iconst (v := 1) hJ d_Rd_dropTask_30 (by decide) ?_
      refine z_iadd hJ d_Rd_dropTask_31 ?_
      refine z_c (y := nI (j + 1)) (nI_1 _) ?_
      refine z_iald hJ d_Rd_dropTask_32 5 (j + 1) rfl rfl (by omega) (by decide) ?_
      refine z_n (fun x_1 e_1 => ?_)
      refine z_iast (w' := rW g b (P.1, P.2.1, P.2.2.1 - 1, P.2.2.2.1, P.2.2.2.2.1, P.2.2.2.2.2.1, P.2.2.2.2.2.2.1, P.2.2.2.2.2.2.2.1, upd (q_shf (rso P) d j) (j) x_1, q_shf (rtm P) d j, q_shf (rne P) d j, q_shf (rpa P) d j)) hJ d_Rd_dropTask_33 5 (j) rfl rfl (by omega) (by decide) rfl ?_
      refine z_aload_n hJ d_Rd_dropTask_34 0 rfl ?_
      refine z_get hJ d_Rd_dropTask_35 hc_Rd f_Rd_40 0 rfl rfl (by decide) ?_
      refine z_iload_n hJ d_Rd_dropTask_38 2 rfl ?_
      refine z_aload_n hJ d_Rd_dropTask_39 0 rfl ?_
      refine z_get hJ d_Rd_dropTask_40 hc_Rd f_Rd_40 0 rfl rfl (by decide) ?_
      refine z_iload_n hJ d_Rd_dropTask_43 2 rfl ?_
      refine z_iconst (v := 1) hJ d_Rd_dropTask_44 (by decide) ?_
      refine z_iadd hJ d_Rd_dropTask_45 ?_
      refine z_c (y := nI (j + 1)) (nI_1 _) ?_
      refine z_iald hJ d_Rd_dropTask_46 6 (j + 1) rfl rfl (by omega) (by decide) ?_
      refine z_n (fun x_2 e_2 => ?_)
      refine z_iast (w' := rW g b (P.1, P.2.1, P.2.2.1 - 1, P.2.2.2.1, P.2.2.2.2.1, P.2.2.2.2.2.1, P.2.2.2.2.2.2.1, P.2.2.2.2.2.2.2.1, upd (q_shf (rso P) d j) (j) x_1, upd (q_shf (rtm P) d j) (j) x_2, q_shf (rne P) d j, q_shf (rpa P) d j)) hJ d_Rd_dropTask_47 6 (j) rfl rfl (by omega) (by decide) rfl ?_
      refine z_aload_n hJ d_Rd_dropTask_48 0 rfl ?_
      refine z_get hJ d_Rd_dropTask_49 hc_Rd f_Rd_43 0 rfl rfl (by decide) ?_
      refine z_iload_n hJ d_Rd_dropTask_52 2 rfl ?_
      refine z_aload_n hJ d_Rd_dropTask_53 0 rfl ?_
      refine z_get hJ d_Rd_dropTask_54 hc_Rd f_Rd_43 0 rfl rfl (by decide) ?_
      refine z_iload_n hJ d_Rd_dropTask_57 2 rfl ?_
      refine z_iconst (v := 1) hJ d_Rd_dropTask_58 (by decide) ?_
      refine z_iadd hJ d_Rd_dropTask_59 ?_
      refine z_c (y := nI (j + 1)) (nI_1 _) ?_
      refine z_iald hJ d_Rd_dropTask_60 7 (j + 1) rfl rfl (by omega) (by decide) ?_
      refine z_n (fun x_3 e_3 => ?_)
      refine z_iast (w' := rW g b (P.1, P.2.1, P.2.2.1 - 1, P.2.2.2.1, P.2.2.2.2.1, P.2.2.2.2.2.1, P.2.2.2.2.2.2.1, P.2.2.2.2.2.2.2.1, upd (q_shf (rso P) d j) (j) x_1, upd (q_shf (rtm P) d j) (j) x_2, upd (q_shf (rne P) d j) (j) x_3, q_shf (rpa P) d j)) hJ d_Rd_dropTask_61 7 (j) rfl rfl (by omega) (by decide) rfl ?_
      refine z_aload_n hJ d_Rd_dropTask_62 0 rfl ?_
      refine z_get hJ d_Rd_dropTask_63 hc_Rd f_Rd_46 0 rfl rfl (by decide) ?_
      refine z_iload_n hJ d_Rd_dropTask_66 2 rfl ?_
      refine z_aload_n hJ d_Rd_dropTask_67 0 rfl ?_
      refine z_get hJ d_Rd_dropTask_68 hc_Rd f_Rd_46 0 rfl rfl (by decide) ?_
      refine z_iload_n hJ d_Rd_dropTask_71 2 rfl ?_
      refine z_iconst (v := 1) hJ d_Rd_dropTask_72 (by decide) ?_
      refine z_iadd hJ d_Rd_dropTask_73 ?_
      refine z_c (y := nI (j + 1)) (nI_1 _) ?_
      refine z_iald hJ d_Rd_dropTask_74 8 (j + 1) rfl rfl (by omega) (by decide) ?_
      refine z_n (fun x_4 e_4 => ?_)
      refine z_iast (w' := rW g b (P.1, P.2.1, P.2.2.1 - 1, P.2.2.2.1, P.2.2.2.2.1, P.2.2.2.2.2.1, P.2.2.2.2.2.2.1, P.2.2.2.2.2.2.2.1, upd (q_shf (rso P) d j) (j) x_1, upd (q_shf (rtm P) d j) (j) x_2, upd (q_shf (rne P) d j) (j) x_3, upd (q_shf (rpa P) d j) (j) x_4)) hJ d_Rd_dropTask_75 8 (j) rfl rfl (by omega) (by decide) rfl ?_
      refine z_iinc (v := nI (j + 1)) (lv' := [(0, _), (1, _), (2, _)]) hJ d_Rd_dropTask_76 2 rfl (zinc _) (by decide) rfl ?_
      refine z_goto hJ d_Rd_dropTask_79 ?_
      subst e_1
      subst e_2
      subst e_3
      subst e_4
      have e := ih (by omega) (by omega)
      rw [← q_shf_s _ hdj, ← q_shf_s _ hdj, ← q_shf_s _ hdj, ← q_shf_s _ hdj] at e
      exact e
  have e := L12 d (by omega) (Nat.le_refl d)
  simp only [q_shf_0] at e
  exact e
set_option maxRecDepth 100000 in
theorem m_Rd_putAsleep {g : Nat → Nat → Nat} {b : Nat → Nat} {P : RS} {i : Nat} {c : Bool} (ha : P.2.2.2.1 < 2 ^ 31) (hi : i < 31) : zM g y_Rd_putAsleep b_Rd_putAsleep 4 (some .int) 1 [.ref (b 0), .int (nI i), .int (zB c)] (rW g b P) [.int (zB (P.2.2.2.1.testBit i))] (rW g b (q_slp P i c)) := by
  refine zMi (lv := [(0, .ref (b 0)), (1, .int (nI i)), (2, .int (zB c))]) (by decide) (Nat.le_of_ble_eq_true rfl) rfl (fun J hJ hR => ?_)
  refine z_aload_n hJ d_Rd_putAsleep_0 0 rfl ?_
  refine z_get hJ d_Rd_putAsleep_1 hc_Rd f_Rd_21 0 rfl rfl (by decide) ?_
  refine z_iload_n hJ d_Rd_putAsleep_4 1 rfl ?_
  refine z_callNi hJ (m_Sx_has ha hi) k_Rd_55 zL.nil d_Rd_putAsleep_5 rfl rfl (Nat.le_of_ble_eq_true rfl) ⟨by decide, by decide⟩ ?_
  refine zb_eq hJ d_Rd_putAsleep_8 (fun c_8 => ?_) (fun c_8 => ?_)
  · skip
    refine z_iconst (v := 0) hJ d_Rd_putAsleep_15 (by decide) ?_
    refine z_istore_n (lv' := [(0, _), (1, _), (2, _), (3, _)]) hJ d_Rd_putAsleep_16 (by decide) rfl ?_
    refine z_aload_n hJ d_Rd_putAsleep_17 0 rfl ?_
    refine z_iload_n hJ d_Rd_putAsleep_18 2 rfl ?_
    refine zb_eq hJ d_Rd_putAsleep_19 (fun c_19 => ?_) (fun c_19 => ?_)
    · skip
      refine z_aload_n hJ d_Rd_putAsleep_33 0 rfl ?_
      refine z_get hJ d_Rd_putAsleep_34 hc_Rd f_Rd_21 0 rfl rfl (by decide) ?_
      refine z_iconst (v := 1) hJ d_Rd_putAsleep_37 (by decide) ?_
      refine z_iload_n hJ d_Rd_putAsleep_38 1 rfl ?_
      refine z_ishl hJ d_Rd_putAsleep_39 ?_
      refine z_iconst (v := (-1)) hJ d_Rd_putAsleep_40 (by decide) ?_
      refine z_ixor hJ d_Rd_putAsleep_41 ?_
      refine z_iand hJ d_Rd_putAsleep_42 ?_
      refine z_c (y := nI (q_sl P.2.2.2.1 i c)) (by rw [zshl1 hi, znot, zand]; simp [q_sl, c_19]) ?_
      refine z_put (w' := rW g b (P.1, P.2.1, P.2.2.1, q_sl P.2.2.2.1 i c, P.2.2.2.2.1, P.2.2.2.2.2.1, P.2.2.2.2.2.2.1, P.2.2.2.2.2.2.2.1, P.2.2.2.2.2.2.2.2.1, P.2.2.2.2.2.2.2.2.2.1, P.2.2.2.2.2.2.2.2.2.2.1, P.2.2.2.2.2.2.2.2.2.2.2)) hJ d_Rd_putAsleep_43 hc_Rd f_Rd_21 0 rfl rfl rfl rfl (by decide) (Nat.le_of_ble_eq_true rfl) rfl ?_
      refine z_iload_n hJ d_Rd_putAsleep_46 3 rfl ?_
      exact z_ri hR d_Rd_putAsleep_47 (by rw [c_8]; rfl) rfl
    · skip
      refine z_aload_n hJ d_Rd_putAsleep_22 0 rfl ?_
      refine z_get hJ d_Rd_putAsleep_23 hc_Rd f_Rd_21 0 rfl rfl (by decide) ?_
      refine z_iconst (v := 1) hJ d_Rd_putAsleep_26 (by decide) ?_
      refine z_iload_n hJ d_Rd_putAsleep_27 1 rfl ?_
      refine z_ishl hJ d_Rd_putAsleep_28 ?_
      refine z_ior hJ d_Rd_putAsleep_29 ?_
      refine z_c (y := nI (q_sl P.2.2.2.1 i c)) (by rw [zshl1 hi, zor]; simp [q_sl, c_19]) ?_
      refine z_goto hJ d_Rd_putAsleep_30 ?_
      refine z_put (w' := rW g b (P.1, P.2.1, P.2.2.1, q_sl P.2.2.2.1 i c, P.2.2.2.2.1, P.2.2.2.2.2.1, P.2.2.2.2.2.2.1, P.2.2.2.2.2.2.2.1, P.2.2.2.2.2.2.2.2.1, P.2.2.2.2.2.2.2.2.2.1, P.2.2.2.2.2.2.2.2.2.2.1, P.2.2.2.2.2.2.2.2.2.2.2)) hJ d_Rd_putAsleep_43 hc_Rd f_Rd_21 0 rfl rfl rfl rfl (by decide) (Nat.le_of_ble_eq_true rfl) rfl ?_
      refine z_iload_n hJ d_Rd_putAsleep_46 3 rfl ?_
      exact z_ri hR d_Rd_putAsleep_47 (by rw [c_8]; rfl) rfl
  · skip
    refine z_iconst (v := 1) hJ d_Rd_putAsleep_11 (by decide) ?_
    refine z_goto hJ d_Rd_putAsleep_12 ?_
    refine z_istore_n (lv' := [(0, _), (1, _), (2, _), (3, _)]) hJ d_Rd_putAsleep_16 (by decide) rfl ?_
    refine z_aload_n hJ d_Rd_putAsleep_17 0 rfl ?_
    refine z_iload_n hJ d_Rd_putAsleep_18 2 rfl ?_
    refine zb_eq hJ d_Rd_putAsleep_19 (fun c_19 => ?_) (fun c_19 => ?_)
    · skip
      refine z_aload_n hJ d_Rd_putAsleep_33 0 rfl ?_
      refine z_get hJ d_Rd_putAsleep_34 hc_Rd f_Rd_21 0 rfl rfl (by decide) ?_
      refine z_iconst (v := 1) hJ d_Rd_putAsleep_37 (by decide) ?_
      refine z_iload_n hJ d_Rd_putAsleep_38 1 rfl ?_
      refine z_ishl hJ d_Rd_putAsleep_39 ?_
      refine z_iconst (v := (-1)) hJ d_Rd_putAsleep_40 (by decide) ?_
      refine z_ixor hJ d_Rd_putAsleep_41 ?_
      refine z_iand hJ d_Rd_putAsleep_42 ?_
      refine z_c (y := nI (q_sl P.2.2.2.1 i c)) (by rw [zshl1 hi, znot, zand]; simp [q_sl, c_19]) ?_
      refine z_put (w' := rW g b (P.1, P.2.1, P.2.2.1, q_sl P.2.2.2.1 i c, P.2.2.2.2.1, P.2.2.2.2.2.1, P.2.2.2.2.2.2.1, P.2.2.2.2.2.2.2.1, P.2.2.2.2.2.2.2.2.1, P.2.2.2.2.2.2.2.2.2.1, P.2.2.2.2.2.2.2.2.2.2.1, P.2.2.2.2.2.2.2.2.2.2.2)) hJ d_Rd_putAsleep_43 hc_Rd f_Rd_21 0 rfl rfl rfl rfl (by decide) (Nat.le_of_ble_eq_true rfl) rfl ?_
      refine z_iload_n hJ d_Rd_putAsleep_46 3 rfl ?_
      exact z_ri hR d_Rd_putAsleep_47 (by rw [c_8]; rfl) rfl
    · skip
      refine z_aload_n hJ d_Rd_putAsleep_22 0 rfl ?_
      refine z_get hJ d_Rd_putAsleep_23 hc_Rd f_Rd_21 0 rfl rfl (by decide) ?_
      refine z_iconst (v := 1) hJ d_Rd_putAsleep_26 (by decide) ?_
      refine z_iload_n hJ d_Rd_putAsleep_27 1 rfl ?_
      refine z_ishl hJ d_Rd_putAsleep_28 ?_
      refine z_ior hJ d_Rd_putAsleep_29 ?_
      refine z_c (y := nI (q_sl P.2.2.2.1 i c)) (by rw [zshl1 hi, zor]; simp [q_sl, c_19]) ?_
      refine z_goto hJ d_Rd_putAsleep_30 ?_
      refine z_put (w' := rW g b (P.1, P.2.1, P.2.2.1, q_sl P.2.2.2.1 i c, P.2.2.2.2.1, P.2.2.2.2.2.1, P.2.2.2.2.2.2.1, P.2.2.2.2.2.2.2.1, P.2.2.2.2.2.2.2.2.1, P.2.2.2.2.2.2.2.2.2.1, P.2.2.2.2.2.2.2.2.2.2.1, P.2.2.2.2.2.2.2.2.2.2.2)) hJ d_Rd_putAsleep_43 hc_Rd f_Rd_21 0 rfl rfl rfl rfl (by decide) (Nat.le_of_ble_eq_true rfl) rfl ?_
      refine z_iload_n hJ d_Rd_putAsleep_46 3 rfl ?_
      exact z_ri hR d_Rd_putAsleep_47 (by rw [c_8]; rfl) rfl
set_option maxRecDepth 100000 in
theorem m_Rd_allSet {g : Nat → Nat → Nat} {b : Nat → Nat} {P : RS}  (hn : P.2.1 ≤ 7) : zM g y_Rd_allSet b_Rd_allSet 1 (some .int) 0 [.ref (b 0)] (rW g b P) [.int (nI (q_all P))] (rW g b P) := by
  refine zMi (lv := [(0, .ref (b 0))]) (by decide) (Nat.le_of_ble_eq_true rfl) rfl (fun J hJ hR => ?_)
  refine z_iconst (v := 1) hJ d_Rd_allSet_0 (by decide) ?_
  refine z_aload_n hJ d_Rd_allSet_1 0 rfl ?_
  refine z_get hJ d_Rd_allSet_2 hc_Rd f_Rd_15 0 rfl rfl (by decide) ?_
  refine z_ishl hJ d_Rd_allSet_5 ?_
  refine z_iconst (v := 1) hJ d_Rd_allSet_6 (by decide) ?_
  refine z_isub hJ d_Rd_allSet_7 ?_
  exact z_ri hR d_Rd_allSet_8 (by rw [zshl1 (by omega), zsub1 (Nat.two_pow_pos _)]; rfl) rfl
set_option maxRecDepth 100000 in
theorem m_Rd_awakeSet {g : Nat → Nat → Nat} {b : Nat → Nat} {P : RS}  (hn : P.2.1 ≤ 7) : zM g y_Rd_awakeSet b_Rd_awakeSet 1 (some .int) 1 [.ref (b 0)] (rW g b P) [.int (nI (q_awk P))] (rW g b P) := by
  refine zMi (lv := [(0, .ref (b 0))]) (by decide) (Nat.le_of_ble_eq_true rfl) rfl (fun J hJ hR => ?_)
  refine z_aload_n hJ d_Rd_awakeSet_0 0 rfl ?_
  refine z_callVi hJ (m_Rd_allSet hn) k_Rd_59 zL.id d_Rd_awakeSet_1 hc_Rd 0 rfl rfl rfl (Nat.le_of_ble_eq_true rfl) ⟨by decide, by decide⟩ ?_
  refine z_aload_n hJ d_Rd_awakeSet_4 0 rfl ?_
  refine z_get hJ d_Rd_awakeSet_5 hc_Rd f_Rd_21 0 rfl rfl (by decide) ?_
  refine z_iconst (v := (-1)) hJ d_Rd_awakeSet_8 (by decide) ?_
  refine z_ixor hJ d_Rd_awakeSet_9 ?_
  refine z_iand hJ d_Rd_awakeSet_10 ?_
  exact z_ri hR d_Rd_awakeSet_11 (by rw [znot, zand]; rfl) rfl
set_option maxRecDepth 100000 in
theorem m_Rd_isSpoilt {g : Nat → Nat → Nat} {b : Nat → Nat} {P : RS} {i aw : Nat} (hn : P.2.1 ≤ 7) (hi : i < 7) (ha : aw < 2 ^ 31) : zM g y_Rd_isSpoilt b_Rd_isSpoilt 5 (some .boolean) 1 [.ref (b 0), .int (nI i), .int (nI aw)] (rW g b P) [.int (zB (q_spoilt P aw i))] (rW g b P) := by
  refine zMz (lv := [(0, .ref (b 0)), (1, .int (nI i)), (2, .int (nI aw))]) (by decide) (Nat.le_of_ble_eq_true rfl) rfl (fun J hJ hR => ?_)
  refine z_aload_n hJ d_Rd_isSpoilt_0 0 rfl ?_
  refine z_get hJ d_Rd_isSpoilt_1 hc_Rd f_Rd_24 0 rfl rfl (by decide) ?_
  refine z_iload_n hJ d_Rd_isSpoilt_4 1 rfl ?_
  refine z_iald hJ d_Rd_isSpoilt_5 1 (i) rfl rfl (by omega) (by decide) ?_
  refine z_callNi hJ m_Sx_spoilerOf k_Rd_63 zL.nil d_Rd_isSpoilt_6 rfl rfl (Nat.le_of_ble_eq_true rfl) ⟨by decide, by decide⟩ ?_
  refine z_istore_n (lv' := [(0, _), (1, _), (2, _), (3, _)]) hJ d_Rd_isSpoilt_9 (by decide) rfl ?_
  refine z_iload_n hJ d_Rd_isSpoilt_10 3 rfl ?_
  refine z_iconst (v := (-1)) hJ d_Rd_isSpoilt_11 (by decide) ?_
  refine z_icmp_ne hJ d_Rd_isSpoilt_12 (fun c_12 => ?_) (fun c_12 => ?_)
  · skip
    refine z_iconst (v := 0) hJ d_Rd_isSpoilt_17 (by decide) ?_
    refine z_istore (lv' := [(0, _), (1, _), (2, _), (3, _), (4, _)]) hJ d_Rd_isSpoilt_18 (by decide) rfl ?_
    have L20 : ∀ j : Nat, j ≤ P.2.1 → q_near P aw i (q_spo (rk P i)) j = false → J (rW g b P) 20 [(0, .ref (b 0)), (1, .int (nI i)), (2, .int (nI aw)), (3, .int (q_spo (rk P i))), (4, .int (nI j))] [] := by
      refine zloop (P.2.1) (fun j hjN ih => ?_)
      intro hq
      refine z_iload hJ d_Rd_isSpoilt_20 4 rfl ?_
      refine z_aload_n hJ d_Rd_isSpoilt_22 0 rfl ?_
      refine z_get hJ d_Rd_isSpoilt_23 hc_Rd f_Rd_15 0 rfl rfl (by decide) ?_
      refine z_icmp_ge hJ d_Rd_isSpoilt_26 (fun c_26 => ?_) (fun c_26 => ?_)
      · skip
        have h_26 : P.2.1 ≤ j := by
          have e := nI_leI (a := P.2.1) (b := j) (by omega) (by omega)
          exact e.mp c_26
        obtain rfl : j = P.2.1 := by omega
        refine z_iconst (v := 0) hJ d_Rd_isSpoilt_87 (by decide) ?_
        exact z_ri hR d_Rd_isSpoilt_88 (by simp [q_spoilt, c_12, hq]; try rfl) rfl
      · skip
        have h_26 : ¬ (P.2.1 ≤ j) := by
          have e := nI_leI (a := P.2.1) (b := j) (by omega) (by omega)
          exact fun q => c_26 (e.mpr q)
        refine z_iload hJ d_Rd_isSpoilt_29 4 rfl ?_
        refine z_iload_n hJ d_Rd_isSpoilt_31 1 rfl ?_
        refine z_icmp_eq hJ d_Rd_isSpoilt_32 (fun c_32 => ?_) (fun c_32 => ?_)
        · skip
          have h_32 : j = i := by
            have e := nI_eq (a := j) (b := i) (by omega) (by omega)
            exact e.mp c_32
          obtain rfl : j = i := h_32
          refine z_iinc (v := nI (j + 1)) (lv' := [(0, _), (1, _), (2, _), (3, _), (4, _)]) hJ d_Rd_isSpoilt_81 4 rfl (zinc _) (by decide) rfl ?_
          refine z_goto hJ d_Rd_isSpoilt_84 ?_
          exact ih (by omega) (by simp [q_near, q_nc, hq, c_12, c_26, c_32])
        · skip
          have h_32 : ¬ (j = i) := by
            have e := nI_eq (a := j) (b := i) (by omega) (by omega)
            exact fun q => c_32 (e.mpr q)
          refine z_iload_n hJ d_Rd_isSpoilt_35 2 rfl ?_
          refine z_iload hJ d_Rd_isSpoilt_36 4 rfl ?_
          refine z_callNi hJ (m_Sx_has ha (by omega)) k_Rd_55 zL.nil d_Rd_isSpoilt_38 rfl rfl (Nat.le_of_ble_eq_true rfl) ⟨by decide, by decide⟩ ?_
          refine zb_eq hJ d_Rd_isSpoilt_41 (fun c_41 => ?_) (fun c_41 => ?_)
          · skip
            refine z_iinc (v := nI (j + 1)) (lv' := [(0, _), (1, _), (2, _), (3, _), (4, _)]) hJ d_Rd_isSpoilt_81 4 rfl (zinc _) (by decide) rfl ?_
            refine z_goto hJ d_Rd_isSpoilt_84 ?_
            exact ih (by omega) (by simp [q_near, q_nc, hq, c_12, c_26, c_32, c_41])
          · skip
            refine z_aload_n hJ d_Rd_isSpoilt_44 0 rfl ?_
            refine z_get hJ d_Rd_isSpoilt_45 hc_Rd f_Rd_24 0 rfl rfl (by decide) ?_
            refine z_iload hJ d_Rd_isSpoilt_48 4 rfl ?_
            refine z_iald hJ d_Rd_isSpoilt_50 1 (j) rfl rfl (by omega) (by decide) ?_
            refine z_iload_n hJ d_Rd_isSpoilt_51 3 rfl ?_
            refine z_callNi hJ m_Sx_isOfKind k_Rd_67 zL.nil d_Rd_isSpoilt_52 rfl rfl (Nat.le_of_ble_eq_true rfl) ⟨by decide, by decide⟩ ?_
            refine zb_eq hJ d_Rd_isSpoilt_55 (fun c_55 => ?_) (fun c_55 => ?_)
            · skip
              refine z_iinc (v := nI (j + 1)) (lv' := [(0, _), (1, _), (2, _), (3, _), (4, _)]) hJ d_Rd_isSpoilt_81 4 rfl (zinc _) (by decide) rfl ?_
              refine z_goto hJ d_Rd_isSpoilt_84 ?_
              exact ih (by omega) (by simp [q_near, q_nc, hq, c_12, c_26, c_32, c_41, c_55])
            · skip
              refine z_aload_n hJ d_Rd_isSpoilt_58 0 rfl ?_
              refine z_get hJ d_Rd_isSpoilt_59 hc_Rd f_Rd_28 0 rfl rfl (by decide) ?_
              refine z_iload hJ d_Rd_isSpoilt_62 4 rfl ?_
              refine z_iald hJ d_Rd_isSpoilt_64 2 (j) rfl rfl (by omega) (by decide) ?_
              refine z_aload_n hJ d_Rd_isSpoilt_65 0 rfl ?_
              refine z_get hJ d_Rd_isSpoilt_66 hc_Rd f_Rd_28 0 rfl rfl (by decide) ?_
              refine z_iload_n hJ d_Rd_isSpoilt_69 1 rfl ?_
              refine z_iald hJ d_Rd_isSpoilt_70 2 (i) rfl rfl (by omega) (by decide) ?_
              refine z_isub hJ d_Rd_isSpoilt_71 ?_
              refine z_mabs hJ d_Rd_isSpoilt_72 k_Rd_70 (Nat.le_of_ble_eq_true rfl) ⟨by decide, by decide⟩ ?_
              refine z_c (y := q_abs _) rfl ?_
              refine z_iconst (v := 2) hJ d_Rd_isSpoilt_75 (by decide) ?_
              refine z_icmp_gt hJ d_Rd_isSpoilt_76 (fun c_76 => ?_) (fun c_76 => ?_)
              · skip
                refine z_iinc (v := nI (j + 1)) (lv' := [(0, _), (1, _), (2, _), (3, _), (4, _)]) hJ d_Rd_isSpoilt_81 4 rfl (zinc _) (by decide) rfl ?_
                refine z_goto hJ d_Rd_isSpoilt_84 ?_
                exact ih (by omega) (by simp [q_near, q_nc, hq, c_12, c_26, c_32, c_41, c_55, c_76])
              · skip
                refine z_iconst (v := 1) hJ d_Rd_isSpoilt_79 (by decide) ?_
                exact z_ri hR d_Rd_isSpoilt_80 (by
                    have h1 : q_near P aw i (q_spo (rk P i)) (j + 1) = true := by simp [q_near, q_nc, c_12, c_26, c_32, c_41, c_55, c_76, h_32]
                    have h2 := q_near_mono h1 P.2.1 (by omega)
                    simp [q_spoilt, c_12, h2]; try rfl) rfl
    exact L20 0 (Nat.zero_le _) rfl
  · skip
    refine z_iconst (v := 0) hJ d_Rd_isSpoilt_15 (by decide) ?_
    exact z_ri hR d_Rd_isSpoilt_16 (by simp [q_spoilt, c_12]; try rfl) rfl
set_option maxRecDepth 100000 in
theorem m_Rd_spoiltSet {g : Nat → Nat → Nat} {b : Nat → Nat} {P : RS} {aw : Nat} (hn : P.2.1 ≤ 7) (ha : aw < 2 ^ 31) : zM g y_Rd_spoiltSet b_Rd_spoiltSet 4 (some .int) 2 [.ref (b 0), .int (nI aw)] (rW g b P) [.int (nI (q_spm P aw))] (rW g b P) := by
  refine zMi (lv := [(0, .ref (b 0)), (1, .int (nI aw))]) (by decide) (Nat.le_of_ble_eq_true rfl) rfl (fun J hJ hR => ?_)
  refine z_iconst (v := 0) hJ d_Rd_spoiltSet_0 (by decide) ?_
  refine z_istore_n (lv' := [(0, _), (1, _), (2, _)]) hJ d_Rd_spoiltSet_1 (by decide) rfl ?_
  refine z_iconst (v := 0) hJ d_Rd_spoiltSet_2 (by decide) ?_
  refine z_istore_n (lv' := [(0, _), (1, _), (2, _), (3, _)]) hJ d_Rd_spoiltSet_3 (by decide) rfl ?_
  have L4 : ∀ j : Nat, j ≤ P.2.1 → J (rW g b P) 4 [(0, .ref (b 0)), (1, .int (nI aw)), (2, .int (nI (q_mask (fun i => q_spoilt P aw i) j))), (3, .int (nI j))] [] := by
    refine zloop (P.2.1) (fun j hjN ih => ?_)
    refine z_iload_n hJ d_Rd_spoiltSet_4 3 rfl ?_
    refine z_aload_n hJ d_Rd_spoiltSet_5 0 rfl ?_
    refine z_get hJ d_Rd_spoiltSet_6 hc_Rd f_Rd_15 0 rfl rfl (by decide) ?_
    refine z_icmp_ge hJ d_Rd_spoiltSet_9 (fun c_9 => ?_) (fun c_9 => ?_)
    · skip
      have h_9 : P.2.1 ≤ j := by
        have e := nI_leI (a := P.2.1) (b := j) (by omega) (by omega)
        exact e.mp c_9
      obtain rfl : j = P.2.1 := by omega
      refine z_iload_n hJ d_Rd_spoiltSet_33 2 rfl ?_
      exact z_ri hR d_Rd_spoiltSet_34 rfl rfl
    · skip
      have h_9 : ¬ (P.2.1 ≤ j) := by
        have e := nI_leI (a := P.2.1) (b := j) (by omega) (by omega)
        exact fun q => c_9 (e.mpr q)
      refine z_aload_n hJ d_Rd_spoiltSet_12 0 rfl ?_
      refine z_iload_n hJ d_Rd_spoiltSet_13 3 rfl ?_
      refine z_iload_n hJ d_Rd_spoiltSet_14 1 rfl ?_
      refine z_callVi hJ (m_Rd_isSpoilt hn (by omega) ha) k_Rd_75 zL.id d_Rd_spoiltSet_15 hc_Rd 0 rfl rfl rfl (Nat.le_of_ble_eq_true rfl) ⟨by decide, by decide⟩ ?_
      refine zb_eq hJ d_Rd_spoiltSet_18 (fun c_18 => ?_) (fun c_18 => ?_)
      · skip
        refine z_iinc (v := nI (j + 1)) (lv' := [(0, _), (1, _), (2, _), (3, _)]) hJ d_Rd_spoiltSet_27 3 rfl (zinc _) (by decide) rfl ?_
        refine z_goto hJ d_Rd_spoiltSet_30 ?_
        have e := ih (by omega)
        rw [q_mask_f c_18] at e
        exact e
      · skip
        refine z_iload_n hJ d_Rd_spoiltSet_21 2 rfl ?_
        refine z_iconst (v := 1) hJ d_Rd_spoiltSet_22 (by decide) ?_
        refine z_iload_n hJ d_Rd_spoiltSet_23 3 rfl ?_
        refine z_ishl hJ d_Rd_spoiltSet_24 ?_
        refine z_ior hJ d_Rd_spoiltSet_25 ?_
        refine z_c (q_mask_t c_18 (by omega)) ?_
        refine z_istore_n (lv' := [(0, _), (1, _), (2, _), (3, _)]) hJ d_Rd_spoiltSet_26 (by decide) rfl ?_
        refine z_iinc (v := nI (j + 1)) (lv' := [(0, _), (1, _), (2, _), (3, _)]) hJ d_Rd_spoiltSet_27 3 rfl (zinc _) (by decide) rfl ?_
        refine z_goto hJ d_Rd_spoiltSet_30 ?_
        exact ih (by omega)
  exact L4 0 (Nat.zero_le _)
set_option maxRecDepth 100000 in
theorem m_Rd_helpOf {g : Nat → Nat → Nat} {b : Nat → Nat} {P : RS} {i t aw spm : Nat} (hi : i < 7) (ht : t < 8) (ha : aw < 2 ^ 31) (hs : spm < 2 ^ 31) : zM g y_Rd_helpOf b_Rd_helpOf 7 (some .int) 1 [.ref (b 0), .int (nI i), .int (nI t), .int (nI aw), .int (nI spm)] (rW g b P) [.int (q_help P aw spm i t)] (rW g b P) := by
  refine zMi (lv := [(0, .ref (b 0)), (1, .int (nI i)), (2, .int (nI t)), (3, .int (nI aw)), (4, .int (nI spm))]) (by decide) (Nat.le_of_ble_eq_true rfl) rfl (fun J hJ hR => ?_)
  refine z_iload_n hJ d_Rd_helpOf_0 3 rfl ?_
  refine z_iload_n hJ d_Rd_helpOf_1 1 rfl ?_
  refine z_callNi hJ (m_Sx_has ha (by omega)) k_Rd_55 zL.nil d_Rd_helpOf_2 rfl rfl (Nat.le_of_ble_eq_true rfl) ⟨by decide, by decide⟩ ?_
  refine zb_ne hJ d_Rd_helpOf_5 (fun c_5 => ?_) (fun c_5 => ?_)
  · skip
    refine z_aload_n hJ d_Rd_helpOf_10 0 rfl ?_
    refine z_get hJ d_Rd_helpOf_11 hc_Rd f_Rd_24 0 rfl rfl (by decide) ?_
    refine z_iload_n hJ d_Rd_helpOf_14 1 rfl ?_
    refine z_iald hJ d_Rd_helpOf_15 1 (i) rfl rfl (by omega) (by decide) ?_
    refine z_aload_n hJ d_Rd_helpOf_16 0 rfl ?_
    refine z_get hJ d_Rd_helpOf_17 hc_Rd f_Rd_37 0 rfl rfl (by decide) ?_
    refine z_iload_n hJ d_Rd_helpOf_20 2 rfl ?_
    refine z_iald hJ d_Rd_helpOf_21 5 (t) rfl rfl (by omega) (by decide) ?_
    refine z_aload_n hJ d_Rd_helpOf_22 0 rfl ?_
    refine z_get hJ d_Rd_helpOf_23 hc_Rd f_Rd_34 0 rfl rfl (by decide) ?_
    refine z_iload_n hJ d_Rd_helpOf_26 1 rfl ?_
    refine z_iald hJ d_Rd_helpOf_27 4 (i) rfl rfl (by omega) (by decide) ?_
    refine z_callNi hJ m_Sx_workOf k_Rd_78 zL.nil d_Rd_helpOf_28 rfl rfl (Nat.le_of_ble_eq_true rfl) ⟨by decide, by decide⟩ ?_
    refine z_istore (lv' := [(0, _), (1, _), (2, _), (3, _), (4, _), (5, _)]) hJ d_Rd_helpOf_31 (by decide) rfl ?_
    refine z_iload hJ d_Rd_helpOf_33 4 rfl ?_
    refine z_iload_n hJ d_Rd_helpOf_35 1 rfl ?_
    refine z_callNi hJ (m_Sx_has hs (by omega)) k_Rd_55 zL.nil d_Rd_helpOf_36 rfl rfl (Nat.le_of_ble_eq_true rfl) ⟨by decide, by decide⟩ ?_
    refine zb_eq hJ d_Rd_helpOf_39 (fun c_39 => ?_) (fun c_39 => ?_)
    · skip
      refine z_iload hJ d_Rd_helpOf_49 5 rfl ?_
      refine z_istore (lv' := [(0, _), (1, _), (2, _), (3, _), (4, _), (5, _), (6, _)]) hJ d_Rd_helpOf_51 (by decide) rfl ?_
      refine z_iconst (v := 0) hJ d_Rd_helpOf_53 (by decide) ?_
      refine z_iload hJ d_Rd_helpOf_54 6 rfl ?_
      refine z_aload_n hJ d_Rd_helpOf_56 0 rfl ?_
      refine z_get hJ d_Rd_helpOf_57 hc_Rd f_Rd_28 0 rfl rfl (by decide) ?_
      refine z_iload_n hJ d_Rd_helpOf_60 1 rfl ?_
      refine z_iald hJ d_Rd_helpOf_61 2 (i) rfl rfl (by omega) (by decide) ?_
      refine z_aload_n hJ d_Rd_helpOf_62 0 rfl ?_
      refine z_get hJ d_Rd_helpOf_63 hc_Rd f_Rd_40 0 rfl rfl (by decide) ?_
      refine z_iload_n hJ d_Rd_helpOf_66 2 rfl ?_
      refine z_iald hJ d_Rd_helpOf_67 6 (t) rfl rfl (by omega) (by decide) ?_
      refine z_isub hJ d_Rd_helpOf_68 ?_
      refine z_mabs hJ d_Rd_helpOf_69 k_Rd_70 (Nat.le_of_ble_eq_true rfl) ⟨by decide, by decide⟩ ?_
      refine z_c (y := q_abs _) rfl ?_
      refine z_isub hJ d_Rd_helpOf_72 ?_
      refine z_mmax hJ d_Rd_helpOf_73 k_Rd_82 (Nat.le_of_ble_eq_true rfl) ⟨by decide, by decide⟩ ?_
      refine z_c (y := q_max _ _) rfl ?_
      exact z_ri hR d_Rd_helpOf_76 (by simp [q_help, c_5, c_39]) rfl
    · skip
      refine z_iload hJ d_Rd_helpOf_42 5 rfl ?_
      refine z_iconst (v := 2) hJ d_Rd_helpOf_44 (by decide) ?_
      refine z_idiv hJ d_Rd_helpOf_45 (by decide) ?_
      refine z_goto hJ d_Rd_helpOf_46 ?_
      refine z_istore (lv' := [(0, _), (1, _), (2, _), (3, _), (4, _), (5, _), (6, _)]) hJ d_Rd_helpOf_51 (by decide) rfl ?_
      refine z_iconst (v := 0) hJ d_Rd_helpOf_53 (by decide) ?_
      refine z_iload hJ d_Rd_helpOf_54 6 rfl ?_
      refine z_aload_n hJ d_Rd_helpOf_56 0 rfl ?_
      refine z_get hJ d_Rd_helpOf_57 hc_Rd f_Rd_28 0 rfl rfl (by decide) ?_
      refine z_iload_n hJ d_Rd_helpOf_60 1 rfl ?_
      refine z_iald hJ d_Rd_helpOf_61 2 (i) rfl rfl (by omega) (by decide) ?_
      refine z_aload_n hJ d_Rd_helpOf_62 0 rfl ?_
      refine z_get hJ d_Rd_helpOf_63 hc_Rd f_Rd_40 0 rfl rfl (by decide) ?_
      refine z_iload_n hJ d_Rd_helpOf_66 2 rfl ?_
      refine z_iald hJ d_Rd_helpOf_67 6 (t) rfl rfl (by omega) (by decide) ?_
      refine z_isub hJ d_Rd_helpOf_68 ?_
      refine z_mabs hJ d_Rd_helpOf_69 k_Rd_70 (Nat.le_of_ble_eq_true rfl) ⟨by decide, by decide⟩ ?_
      refine z_c (y := q_abs _) rfl ?_
      refine z_isub hJ d_Rd_helpOf_72 ?_
      refine z_mmax hJ d_Rd_helpOf_73 k_Rd_82 (Nat.le_of_ble_eq_true rfl) ⟨by decide, by decide⟩ ?_
      refine z_c (y := q_max _ _) rfl ?_
      exact z_ri hR d_Rd_helpOf_76 (by simp [q_help, c_5, c_39]) rfl
  · skip
    refine z_iconst (v := 0) hJ d_Rd_helpOf_8 (by decide) ?_
    exact z_ri hR d_Rd_helpOf_9 (by simp [q_help, c_5]) rfl
set_option maxRecDepth 100000 in
theorem m_Rd_helpOfAll {g : Nat → Nat → Nat} {b : Nat → Nat} {P : RS} {t aw spm : Nat} (hn : P.2.1 ≤ 7) (ht : t < 8) (ha : aw < 2 ^ 31) (hs : spm < 2 ^ 31) : zM g y_Rd_helpOfAll b_Rd_helpOfAll 6 (some .int) 2 [.ref (b 0), .int (nI t), .int (nI aw), .int (nI spm)] (rW g b P) [.int (q_helpA P aw spm t)] (rW g b P) := by
  refine zMi (lv := [(0, .ref (b 0)), (1, .int (nI t)), (2, .int (nI aw)), (3, .int (nI spm))]) (by decide) (Nat.le_of_ble_eq_true rfl) rfl (fun J hJ hR => ?_)
  refine z_iconst (v := 0) hJ d_Rd_helpOfAll_0 (by decide) ?_
  refine z_istore (lv' := [(0, _), (1, _), (2, _), (3, _), (4, _)]) hJ d_Rd_helpOfAll_1 (by decide) rfl ?_
  refine z_iconst (v := 0) hJ d_Rd_helpOfAll_3 (by decide) ?_
  refine z_istore (lv' := [(0, _), (1, _), (2, _), (3, _), (4, _), (5, _)]) hJ d_Rd_helpOfAll_4 (by decide) rfl ?_
  have L6 : ∀ j : Nat, j ≤ P.2.1 → J (rW g b P) 6 [(0, .ref (b 0)), (1, .int (nI t)), (2, .int (nI aw)), (3, .int (nI spm)), (4, .int (q_sum (fun i => q_help P aw spm i t) j)), (5, .int (nI j))] [] := by
    refine zloop (P.2.1) (fun j hjN ih => ?_)
    refine z_iload hJ d_Rd_helpOfAll_6 5 rfl ?_
    refine z_aload_n hJ d_Rd_helpOfAll_8 0 rfl ?_
    refine z_get hJ d_Rd_helpOfAll_9 hc_Rd f_Rd_15 0 rfl rfl (by decide) ?_
    refine z_icmp_ge hJ d_Rd_helpOfAll_12 (fun c_12 => ?_) (fun c_12 => ?_)
    · skip
      have h_12 : P.2.1 ≤ j := by
        have e := nI_leI (a := P.2.1) (b := j) (by omega) (by omega)
        exact e.mp c_12
      obtain rfl : j = P.2.1 := by omega
      refine z_iload hJ d_Rd_helpOfAll_35 4 rfl ?_
      exact z_ri hR d_Rd_helpOfAll_37 rfl rfl
    · skip
      have h_12 : ¬ (P.2.1 ≤ j) := by
        have e := nI_leI (a := P.2.1) (b := j) (by omega) (by omega)
        exact fun q => c_12 (e.mpr q)
      refine z_iload hJ d_Rd_helpOfAll_15 4 rfl ?_
      refine z_aload_n hJ d_Rd_helpOfAll_17 0 rfl ?_
      refine z_iload hJ d_Rd_helpOfAll_18 5 rfl ?_
      refine z_iload_n hJ d_Rd_helpOfAll_20 1 rfl ?_
      refine z_iload_n hJ d_Rd_helpOfAll_21 2 rfl ?_
      refine z_iload_n hJ d_Rd_helpOfAll_22 3 rfl ?_
      refine z_callVi hJ (m_Rd_helpOf (by omega) ht ha hs) k_Rd_86 zL.id d_Rd_helpOfAll_23 hc_Rd 0 rfl rfl rfl (Nat.le_of_ble_eq_true rfl) ⟨by decide, by decide⟩ ?_
      refine z_iadd hJ d_Rd_helpOfAll_26 ?_
      refine z_istore (lv' := [(0, _), (1, _), (2, _), (3, _), (4, _), (5, _)]) hJ d_Rd_helpOfAll_27 (by decide) rfl ?_
      refine z_iinc (v := nI (j + 1)) (lv' := [(0, _), (1, _), (2, _), (3, _), (4, _), (5, _)]) hJ d_Rd_helpOfAll_29 5 rfl (zinc _) (by decide) rfl ?_
      refine z_goto hJ d_Rd_helpOfAll_32 ?_
      exact ih (by omega)
  exact L6 0 (Nat.zero_le _)
set_option maxRecDepth 100000 in
theorem m_Rd_helperSet {g : Nat → Nat → Nat} {b : Nat → Nat} {P : RS} {t aw spm : Nat} (hn : P.2.1 ≤ 7) (ht : t < 8) (ha : aw < 2 ^ 31) (hs : spm < 2 ^ 31) : zM g y_Rd_helperSet b_Rd_helperSet 6 (some .int) 2 [.ref (b 0), .int (nI t), .int (nI aw), .int (nI spm)] (rW g b P) [.int (nI (q_helpers P aw spm t))] (rW g b P) := by
  refine zMi (lv := [(0, .ref (b 0)), (1, .int (nI t)), (2, .int (nI aw)), (3, .int (nI spm))]) (by decide) (Nat.le_of_ble_eq_true rfl) rfl (fun J hJ hR => ?_)
  refine z_iconst (v := 0) hJ d_Rd_helperSet_0 (by decide) ?_
  refine z_istore (lv' := [(0, _), (1, _), (2, _), (3, _), (4, _)]) hJ d_Rd_helperSet_1 (by decide) rfl ?_
  refine z_iconst (v := 0) hJ d_Rd_helperSet_3 (by decide) ?_
  refine z_istore (lv' := [(0, _), (1, _), (2, _), (3, _), (4, _), (5, _)]) hJ d_Rd_helperSet_4 (by decide) rfl ?_
  have L6 : ∀ j : Nat, j ≤ P.2.1 → J (rW g b P) 6 [(0, .ref (b 0)), (1, .int (nI t)), (2, .int (nI aw)), (3, .int (nI spm)), (4, .int (nI (q_mask (fun i => decide (¬ q_help P aw spm i t ≤ 0)) j))), (5, .int (nI j))] [] := by
    refine zloop (P.2.1) (fun j hjN ih => ?_)
    refine z_iload hJ d_Rd_helperSet_6 5 rfl ?_
    refine z_aload_n hJ d_Rd_helperSet_8 0 rfl ?_
    refine z_get hJ d_Rd_helperSet_9 hc_Rd f_Rd_15 0 rfl rfl (by decide) ?_
    refine z_icmp_ge hJ d_Rd_helperSet_12 (fun c_12 => ?_) (fun c_12 => ?_)
    · skip
      have h_12 : P.2.1 ≤ j := by
        have e := nI_leI (a := P.2.1) (b := j) (by omega) (by omega)
        exact e.mp c_12
      obtain rfl : j = P.2.1 := by omega
      refine z_iload hJ d_Rd_helperSet_42 4 rfl ?_
      exact z_ri hR d_Rd_helperSet_44 rfl rfl
    · skip
      have h_12 : ¬ (P.2.1 ≤ j) := by
        have e := nI_leI (a := P.2.1) (b := j) (by omega) (by omega)
        exact fun q => c_12 (e.mpr q)
      refine z_aload_n hJ d_Rd_helperSet_15 0 rfl ?_
      refine z_iload hJ d_Rd_helperSet_16 5 rfl ?_
      refine z_iload_n hJ d_Rd_helperSet_18 1 rfl ?_
      refine z_iload_n hJ d_Rd_helperSet_19 2 rfl ?_
      refine z_iload_n hJ d_Rd_helperSet_20 3 rfl ?_
      refine z_callVi hJ (m_Rd_helpOf (by omega) ht ha hs) k_Rd_86 zL.id d_Rd_helperSet_21 hc_Rd 0 rfl rfl rfl (Nat.le_of_ble_eq_true rfl) ⟨by decide, by decide⟩ ?_
      refine z_if_le hJ d_Rd_helperSet_24 (fun c_24 => ?_) (fun c_24 => ?_)
      · skip
        refine z_iinc (v := nI (j + 1)) (lv' := [(0, _), (1, _), (2, _), (3, _), (4, _), (5, _)]) hJ d_Rd_helperSet_36 5 rfl (zinc _) (by decide) rfl ?_
        refine z_goto hJ d_Rd_helperSet_39 ?_
        have e := ih (by omega)
        rw [q_mask_f (by simp [c_24])] at e
        exact e
      · skip
        refine z_iload hJ d_Rd_helperSet_27 4 rfl ?_
        refine z_iconst (v := 1) hJ d_Rd_helperSet_29 (by decide) ?_
        refine z_iload hJ d_Rd_helperSet_30 5 rfl ?_
        refine z_ishl hJ d_Rd_helperSet_32 ?_
        refine z_ior hJ d_Rd_helperSet_33 ?_
        refine z_c (q_mask_t (f := fun i => decide (¬ q_help P aw spm i t ≤ 0)) (by simp [c_24]) (by omega)) ?_
        refine z_istore (lv' := [(0, _), (1, _), (2, _), (3, _), (4, _), (5, _)]) hJ d_Rd_helperSet_34 (by decide) rfl ?_
        refine z_iinc (v := nI (j + 1)) (lv' := [(0, _), (1, _), (2, _), (3, _), (4, _), (5, _)]) hJ d_Rd_helperSet_36 5 rfl (zinc _) (by decide) rfl ?_
        refine z_goto hJ d_Rd_helperSet_39 ?_
        exact ih (by omega)
  exact L6 0 (Nat.zero_le _)
set_option maxRecDepth 100000 in
theorem m_Rd_isMet {g : Nat → Nat → Nat} {b : Nat → Nat} {P : RS} {t aw : Nat} (hn : P.2.1 ≤ 7) (ht : t < 8) (ha : aw < 2 ^ 31) : zM g y_Rd_isMet b_Rd_isMet 3 (some .boolean) 3 [.ref (b 0), .int (nI t), .int (nI aw)] (rW g b P) [.int (zB (q_isMet P aw t))] (rW g b P) := by
  refine zMz (lv := [(0, .ref (b 0)), (1, .int (nI t)), (2, .int (nI aw))]) (by decide) (Nat.le_of_ble_eq_true rfl) rfl (fun J hJ hR => ?_)
  refine z_aload_n hJ d_Rd_isMet_0 0 rfl ?_
  refine z_iload_n hJ d_Rd_isMet_1 1 rfl ?_
  refine z_iload_n hJ d_Rd_isMet_2 2 rfl ?_
  refine z_aload_n hJ d_Rd_isMet_3 0 rfl ?_
  refine z_iload_n hJ d_Rd_isMet_4 2 rfl ?_
  refine z_callVi hJ (m_Rd_spoiltSet hn ha) k_Rd_90 zL.id d_Rd_isMet_5 hc_Rd 0 rfl rfl rfl (Nat.le_of_ble_eq_true rfl) ⟨by decide, by decide⟩ ?_
  refine z_callVi hJ (m_Rd_helpOfAll hn ht ha (q_spm_31 hn)) k_Rd_93 zL.id d_Rd_isMet_8 hc_Rd 0 rfl rfl rfl (Nat.le_of_ble_eq_true rfl) ⟨by decide, by decide⟩ ?_
  refine z_aload_n hJ d_Rd_isMet_11 0 rfl ?_
  refine z_get hJ d_Rd_isMet_12 hc_Rd f_Rd_43 0 rfl rfl (by decide) ?_
  refine z_iload_n hJ d_Rd_isMet_15 1 rfl ?_
  refine z_iald hJ d_Rd_isMet_16 7 (t) rfl rfl (by omega) (by decide) ?_
  refine z_icmp_lt hJ d_Rd_isMet_17 (fun c_17 => ?_) (fun c_17 => ?_)
  · skip
    refine z_iconst (v := 0) hJ d_Rd_isMet_24 (by decide) ?_
    exact z_ri hR d_Rd_isMet_25 (by simp [q_isMet, c_17]; try rfl) rfl
  · skip
    refine z_iconst (v := 1) hJ d_Rd_isMet_20 (by decide) ?_
    refine z_goto hJ d_Rd_isMet_21 ?_
    exact z_ri hR d_Rd_isMet_25 (by simp [q_isMet, c_17]; try rfl) rfl
set_option maxRecDepth 100000 in
theorem m_Rd_metSet {g : Nat → Nat → Nat} {b : Nat → Nat} {P : RS} {aw : Nat} (hn : P.2.1 ≤ 7) (ht : P.2.2.1 ≤ 8) (ha : aw < 2 ^ 31) : zM g y_Rd_metSet b_Rd_metSet 5 (some .int) 3 [.ref (b 0), .int (nI aw)] (rW g b P) [.int (nI (q_metS P aw))] (rW g b P) := by
  refine zMi (lv := [(0, .ref (b 0)), (1, .int (nI aw))]) (by decide) (Nat.le_of_ble_eq_true rfl) rfl (fun J hJ hR => ?_)
  refine z_aload_n hJ d_Rd_metSet_0 0 rfl ?_
  refine z_iload_n hJ d_Rd_metSet_1 1 rfl ?_
  refine z_callVi hJ (m_Rd_spoiltSet hn ha) k_Rd_90 zL.id d_Rd_metSet_2 hc_Rd 0 rfl rfl rfl (Nat.le_of_ble_eq_true rfl) ⟨by decide, by decide⟩ ?_
  refine z_istore_n (lv' := [(0, _), (1, _), (2, _)]) hJ d_Rd_metSet_5 (by decide) rfl ?_
  refine z_iconst (v := 0) hJ d_Rd_metSet_6 (by decide) ?_
  refine z_istore_n (lv' := [(0, _), (1, _), (2, _), (3, _)]) hJ d_Rd_metSet_7 (by decide) rfl ?_
  refine z_iconst (v := 0) hJ d_Rd_metSet_8 (by decide) ?_
  refine z_istore (lv' := [(0, _), (1, _), (2, _), (3, _), (4, _)]) hJ d_Rd_metSet_9 (by decide) rfl ?_
  have L11 : ∀ j : Nat, j ≤ P.2.2.1 → J (rW g b P) 11 [(0, .ref (b 0)), (1, .int (nI aw)), (2, .int (nI (q_spm P aw))), (3, .int (nI (q_mask (fun t => q_isMet P aw t) j))), (4, .int (nI j))] [] := by
    refine zloop (P.2.2.1) (fun j hjN ih => ?_)
    refine z_iload hJ d_Rd_metSet_11 4 rfl ?_
    refine z_aload_n hJ d_Rd_metSet_13 0 rfl ?_
    refine z_get hJ d_Rd_metSet_14 hc_Rd f_Rd_18 0 rfl rfl (by decide) ?_
    refine z_icmp_ge hJ d_Rd_metSet_17 (fun c_17 => ?_) (fun c_17 => ?_)
    · skip
      have h_17 : P.2.2.1 ≤ j := by
        have e := nI_leI (a := P.2.2.1) (b := j) (by omega) (by omega)
        exact e.mp c_17
      obtain rfl : j = P.2.2.1 := by omega
      refine z_iload_n hJ d_Rd_metSet_51 3 rfl ?_
      exact z_ri hR d_Rd_metSet_52 rfl rfl
    · skip
      have h_17 : ¬ (P.2.2.1 ≤ j) := by
        have e := nI_leI (a := P.2.2.1) (b := j) (by omega) (by omega)
        exact fun q => c_17 (e.mpr q)
      refine z_aload_n hJ d_Rd_metSet_20 0 rfl ?_
      refine z_iload hJ d_Rd_metSet_21 4 rfl ?_
      refine z_iload_n hJ d_Rd_metSet_23 1 rfl ?_
      refine z_iload_n hJ d_Rd_metSet_24 2 rfl ?_
      refine z_callVi hJ (m_Rd_helpOfAll hn (by omega) ha (q_spm_31 hn)) k_Rd_93 zL.id d_Rd_metSet_25 hc_Rd 0 rfl rfl rfl (Nat.le_of_ble_eq_true rfl) ⟨by decide, by decide⟩ ?_
      refine z_aload_n hJ d_Rd_metSet_28 0 rfl ?_
      refine z_get hJ d_Rd_metSet_29 hc_Rd f_Rd_43 0 rfl rfl (by decide) ?_
      refine z_iload hJ d_Rd_metSet_32 4 rfl ?_
      refine z_iald hJ d_Rd_metSet_34 7 (j) rfl rfl (by omega) (by decide) ?_
      refine z_icmp_lt hJ d_Rd_metSet_35 (fun c_35 => ?_) (fun c_35 => ?_)
      · skip
        refine z_iinc (v := nI (j + 1)) (lv' := [(0, _), (1, _), (2, _), (3, _), (4, _)]) hJ d_Rd_metSet_45 4 rfl (zinc _) (by decide) rfl ?_
        refine z_goto hJ d_Rd_metSet_48 ?_
        have e := ih (by omega)
        rw [q_mask_f (by simp [q_isMet, c_35])] at e
        exact e
      · skip
        refine z_iload_n hJ d_Rd_metSet_38 3 rfl ?_
        refine z_iconst (v := 1) hJ d_Rd_metSet_39 (by decide) ?_
        refine z_iload hJ d_Rd_metSet_40 4 rfl ?_
        refine z_ishl hJ d_Rd_metSet_42 ?_
        refine z_ior hJ d_Rd_metSet_43 ?_
        refine z_c (q_mask_t (f := fun t => q_isMet P aw t) (by simp [q_isMet, c_35]) (by omega)) ?_
        refine z_istore_n (lv' := [(0, _), (1, _), (2, _), (3, _), (4, _)]) hJ d_Rd_metSet_44 (by decide) rfl ?_
        refine z_iinc (v := nI (j + 1)) (lv' := [(0, _), (1, _), (2, _), (3, _), (4, _)]) hJ d_Rd_metSet_45 4 rfl (zinc _) (by decide) rfl ?_
        refine z_goto hJ d_Rd_metSet_48 ?_
        exact ih (by omega)
  exact L11 0 (Nat.zero_le _)
set_option maxRecDepth 100000 in
theorem m_Rd_earned {g : Nat → Nat → Nat} {b : Nat → Nat} {P : RS} {aw : Nat} (hn : P.2.1 ≤ 7) (ht : P.2.2.1 ≤ 8) (ha : aw < 2 ^ 31) : zM g y_Rd_earned b_Rd_earned 5 (some .int) 4 [.ref (b 0), .int (nI aw)] (rW g b P) [.int (q_earn P aw)] (rW g b P) := by
  refine zMi (lv := [(0, .ref (b 0)), (1, .int (nI aw))]) (by decide) (Nat.le_of_ble_eq_true rfl) rfl (fun J hJ hR => ?_)
  refine z_aload_n hJ d_Rd_earned_0 0 rfl ?_
  refine z_iload_n hJ d_Rd_earned_1 1 rfl ?_
  refine z_callVi hJ (m_Rd_metSet hn ht ha) k_Rd_96 zL.id d_Rd_earned_2 hc_Rd 0 rfl rfl rfl (Nat.le_of_ble_eq_true rfl) ⟨by decide, by decide⟩ ?_
  refine z_istore_n (lv' := [(0, _), (1, _), (2, _)]) hJ d_Rd_earned_5 (by decide) rfl ?_
  refine z_iconst (v := 0) hJ d_Rd_earned_6 (by decide) ?_
  refine z_istore_n (lv' := [(0, _), (1, _), (2, _), (3, _)]) hJ d_Rd_earned_7 (by decide) rfl ?_
  refine z_iconst (v := 0) hJ d_Rd_earned_8 (by decide) ?_
  refine z_istore (lv' := [(0, _), (1, _), (2, _), (3, _), (4, _)]) hJ d_Rd_earned_9 (by decide) rfl ?_
  have L11 : ∀ j : Nat, j ≤ P.2.2.1 → J (rW g b P) 11 [(0, .ref (b 0)), (1, .int (nI aw)), (2, .int (nI (q_metS P aw))), (3, .int (q_sumif (fun t => (q_metS P aw).testBit t) (rpa P) j)), (4, .int (nI j))] [] := by
    refine zloop (P.2.2.1) (fun j hjN ih => ?_)
    refine z_iload hJ d_Rd_earned_11 4 rfl ?_
    refine z_aload_n hJ d_Rd_earned_13 0 rfl ?_
    refine z_get hJ d_Rd_earned_14 hc_Rd f_Rd_18 0 rfl rfl (by decide) ?_
    refine z_icmp_ge hJ d_Rd_earned_17 (fun c_17 => ?_) (fun c_17 => ?_)
    · skip
      have h_17 : P.2.2.1 ≤ j := by
        have e := nI_leI (a := P.2.2.1) (b := j) (by omega) (by omega)
        exact e.mp c_17
      obtain rfl : j = P.2.2.1 := by omega
      refine z_iload_n hJ d_Rd_earned_45 3 rfl ?_
      exact z_ri hR d_Rd_earned_46 rfl rfl
    · skip
      have h_17 : ¬ (P.2.2.1 ≤ j) := by
        have e := nI_leI (a := P.2.2.1) (b := j) (by omega) (by omega)
        exact fun q => c_17 (e.mpr q)
      refine z_iload_n hJ d_Rd_earned_20 2 rfl ?_
      refine z_iload hJ d_Rd_earned_21 4 rfl ?_
      refine z_callNi hJ (m_Sx_has (q_metS_31 ht) (by omega)) k_Rd_55 zL.nil d_Rd_earned_23 rfl rfl (Nat.le_of_ble_eq_true rfl) ⟨by decide, by decide⟩ ?_
      refine zb_eq hJ d_Rd_earned_26 (fun c_26 => ?_) (fun c_26 => ?_)
      · skip
        refine z_iinc (v := nI (j + 1)) (lv' := [(0, _), (1, _), (2, _), (3, _), (4, _)]) hJ d_Rd_earned_39 4 rfl (zinc _) (by decide) rfl ?_
        refine z_goto hJ d_Rd_earned_42 ?_
        have e := ih (by omega)
        rw [q_sumif_f (f := fun t => (q_metS P aw).testBit t) c_26] at e
        exact e
      · skip
        refine z_iload_n hJ d_Rd_earned_29 3 rfl ?_
        refine z_aload_n hJ d_Rd_earned_30 0 rfl ?_
        refine z_get hJ d_Rd_earned_31 hc_Rd f_Rd_46 0 rfl rfl (by decide) ?_
        refine z_iload hJ d_Rd_earned_34 4 rfl ?_
        refine z_iald hJ d_Rd_earned_36 8 (j) rfl rfl (by omega) (by decide) ?_
        refine z_iadd hJ d_Rd_earned_37 ?_
        refine z_istore_n (lv' := [(0, _), (1, _), (2, _), (3, _), (4, _)]) hJ d_Rd_earned_38 (by decide) rfl ?_
        refine z_iinc (v := nI (j + 1)) (lv' := [(0, _), (1, _), (2, _), (3, _), (4, _)]) hJ d_Rd_earned_39 4 rfl (zinc _) (by decide) rfl ?_
        refine z_goto hJ d_Rd_earned_42 ?_
        have e := ih (by omega)
        rw [q_sumif_t (f := fun t => (q_metS P aw).testBit t) c_26] at e
        exact e
  exact L11 0 (Nat.zero_le _)
set_option maxRecDepth 100000 in
theorem m_Rd_hoursToGoal {g : Nat → Nat → Nat} {b : Nat → Nat} {P : RS} {i : Nat} (hi : i < 7) : zM g y_Rd_hoursToGoal b_Rd_hoursToGoal 3 (some .int) 1 [.ref (b 0), .int (nI i)] (rW g b P) [.int (q_htg P i)] (rW g b P) := by
  refine zMi (lv := [(0, .ref (b 0)), (1, .int (nI i))]) (by decide) (Nat.le_of_ble_eq_true rfl) rfl (fun J hJ hR => ?_)
  refine z_iconst (v := 1) hJ d_Rd_hoursToGoal_0 (by decide) ?_
  refine z_aload_n hJ d_Rd_hoursToGoal_1 0 rfl ?_
  refine z_get hJ d_Rd_hoursToGoal_2 hc_Rd f_Rd_24 0 rfl rfl (by decide) ?_
  refine z_iload_n hJ d_Rd_hoursToGoal_5 1 rfl ?_
  refine z_iald hJ d_Rd_hoursToGoal_6 1 (i) rfl rfl (by omega) (by decide) ?_
  refine z_callNi hJ m_Sx_paceOf k_Rd_99 zL.nil d_Rd_hoursToGoal_7 rfl rfl (Nat.le_of_ble_eq_true rfl) ⟨by decide, by decide⟩ ?_
  refine z_mmax hJ d_Rd_hoursToGoal_10 k_Rd_82 (Nat.le_of_ble_eq_true rfl) ⟨by decide, by decide⟩ ?_
  refine z_c (y := q_max _ _) rfl ?_
  refine z_istore_n (lv' := [(0, _), (1, _), (2, _)]) hJ d_Rd_hoursToGoal_13 (by decide) rfl ?_
  refine z_aload_n hJ d_Rd_hoursToGoal_14 0 rfl ?_
  refine z_get hJ d_Rd_hoursToGoal_15 hc_Rd f_Rd_31 0 rfl rfl (by decide) ?_
  refine z_iload_n hJ d_Rd_hoursToGoal_18 1 rfl ?_
  refine z_iald hJ d_Rd_hoursToGoal_19 3 (i) rfl rfl (by omega) (by decide) ?_
  refine z_aload_n hJ d_Rd_hoursToGoal_20 0 rfl ?_
  refine z_get hJ d_Rd_hoursToGoal_21 hc_Rd f_Rd_28 0 rfl rfl (by decide) ?_
  refine z_iload_n hJ d_Rd_hoursToGoal_24 1 rfl ?_
  refine z_iald hJ d_Rd_hoursToGoal_25 2 (i) rfl rfl (by omega) (by decide) ?_
  refine z_isub hJ d_Rd_hoursToGoal_26 ?_
  refine z_mabs hJ d_Rd_hoursToGoal_27 k_Rd_70 (Nat.le_of_ble_eq_true rfl) ⟨by decide, by decide⟩ ?_
  refine z_c (y := q_abs _) rfl ?_
  refine z_iload_n hJ d_Rd_hoursToGoal_30 2 rfl ?_
  refine z_iadd hJ d_Rd_hoursToGoal_31 ?_
  refine z_iconst (v := 1) hJ d_Rd_hoursToGoal_32 (by decide) ?_
  refine z_isub hJ d_Rd_hoursToGoal_33 ?_
  refine z_iload_n hJ d_Rd_hoursToGoal_34 2 rfl ?_
  refine z_idiv hJ d_Rd_hoursToGoal_35 (q_pace_ne _) ?_
  exact z_ri hR d_Rd_hoursToGoal_36 rfl rfl
set_option maxRecDepth 100000 in
theorem m_Rd_letHoursGo {g : Nat → Nat → Nat} {b : Nat → Nat} {P : RS} {h : Int32} (hn : P.2.1 ≤ 7) (ha : P.2.2.2.1 < 2 ^ 31) : zM g y_Rd_letHoursGo b_Rd_letHoursGo 5 none 1 [.ref (b 0), .int h] (rW g b P) [] (rW g b (q_go P h)) := by
  refine zMv (lv := [(0, .ref (b 0)), (1, .int h)]) (by decide) (Nat.le_of_ble_eq_true rfl) rfl (fun J hJ hR => ?_)
  refine z_aload_n hJ d_Rd_letHoursGo_0 0 rfl ?_
  refine z_dup hJ d_Rd_letHoursGo_1 rfl ?_
  refine z_get hJ d_Rd_letHoursGo_2 hc_Rd f_Rd_9 0 rfl rfl (by decide) ?_
  refine z_iload_n hJ d_Rd_letHoursGo_5 1 rfl ?_
  refine z_iadd hJ d_Rd_letHoursGo_6 ?_
  refine z_n (fun x_1 e_1 => ?_)
  refine z_put (w' := rW g b (x_1, P.2.1, P.2.2.1, P.2.2.2.1, P.2.2.2.2.1, P.2.2.2.2.2.1, P.2.2.2.2.2.2.1, P.2.2.2.2.2.2.2.1, P.2.2.2.2.2.2.2.2.1, P.2.2.2.2.2.2.2.2.2.1, P.2.2.2.2.2.2.2.2.2.2.1, P.2.2.2.2.2.2.2.2.2.2.2)) hJ d_Rd_letHoursGo_7 hc_Rd f_Rd_9 0 rfl rfl rfl rfl (by decide) (Nat.le_of_ble_eq_true rfl) rfl ?_
  refine z_iconst (v := 0) hJ d_Rd_letHoursGo_10 (by decide) ?_
  refine z_istore_n (lv' := [(0, _), (1, _), (2, _)]) hJ d_Rd_letHoursGo_11 (by decide) rfl ?_
  have L12 : ∀ j : Nat, j ≤ P.2.1 → J (rW g b (P.1 + h, P.2.1, P.2.2.1, P.2.2.2.1, P.2.2.2.2.1, q_goM P h j, P.2.2.2.2.2.2.1, P.2.2.2.2.2.2.2.1, P.2.2.2.2.2.2.2.2.1, P.2.2.2.2.2.2.2.2.2.1, P.2.2.2.2.2.2.2.2.2.2.1, P.2.2.2.2.2.2.2.2.2.2.2)) 12 [(0, .ref (b 0)), (1, .int h), (2, .int (nI j))] [] := by
    refine zloop (P.2.1) (fun j hjN ih => ?_)
    refine z_iload_n hJ d_Rd_letHoursGo_12 2 rfl ?_
    refine z_aload_n hJ d_Rd_letHoursGo_13 0 rfl ?_
    refine z_get hJ d_Rd_letHoursGo_14 hc_Rd f_Rd_15 0 rfl rfl (by decide) ?_
    refine z_icmp_ge hJ d_Rd_letHoursGo_17 (fun c_17 => ?_) (fun c_17 => ?_)
    · skip
      have h_17 : P.2.1 ≤ j := by
        have e := nI_leI (a := P.2.1) (b := j) (by omega) (by omega)
        exact e.mp c_17
      obtain rfl : j = P.2.1 := by omega
      subst e_1
      exact z_rv hR d_Rd_letHoursGo_84 rfl
    · skip
      have h_17 : ¬ (P.2.1 ≤ j) := by
        have e := nI_leI (a := P.2.1) (b := j) (by omega) (by omega)
        exact fun q => c_17 (e.mpr q)
      refine z_aload_n hJ d_Rd_letHoursGo_20 0 rfl ?_
      refine z_get hJ d_Rd_letHoursGo_21 hc_Rd f_Rd_21 0 rfl rfl (by decide) ?_
      refine z_iload_n hJ d_Rd_letHoursGo_24 2 rfl ?_
      refine z_callNi hJ (m_Sx_has ha (by omega)) k_Rd_55 zL.nil d_Rd_letHoursGo_25 rfl rfl (Nat.le_of_ble_eq_true rfl) ⟨by decide, by decide⟩ ?_
      refine zb_ne hJ d_Rd_letHoursGo_28 (fun c_28 => ?_) (fun c_28 => ?_)
      · skip
        refine z_iinc (v := nI (j + 1)) (lv' := [(0, _), (1, _), (2, _)]) hJ d_Rd_letHoursGo_78 2 rfl (zinc _) (by decide) rfl ?_
        refine z_goto hJ d_Rd_letHoursGo_81 ?_
        subst e_1
        have e := ih (by omega)
        simp only [q_goM, c_28] at e
        exact e
      · skip
        refine z_iload_n hJ d_Rd_letHoursGo_31 1 rfl ?_
        refine z_aload_n hJ d_Rd_letHoursGo_32 0 rfl ?_
        refine z_get hJ d_Rd_letHoursGo_33 hc_Rd f_Rd_24 0 rfl rfl (by decide) ?_
        refine z_iload_n hJ d_Rd_letHoursGo_36 2 rfl ?_
        refine z_iald hJ d_Rd_letHoursGo_37 1 (j) rfl rfl (by omega) (by decide) ?_
        refine z_callNi hJ m_Sx_paceOf k_Rd_99 zL.nil d_Rd_letHoursGo_38 rfl rfl (Nat.le_of_ble_eq_true rfl) ⟨by decide, by decide⟩ ?_
        refine z_imul hJ d_Rd_letHoursGo_41 ?_
        refine z_istore_n (lv' := [(0, _), (1, _), (2, _), (3, _)]) hJ d_Rd_letHoursGo_42 (by decide) rfl ?_
        refine z_aload_n hJ d_Rd_letHoursGo_43 0 rfl ?_
        refine z_get hJ d_Rd_letHoursGo_44 hc_Rd f_Rd_31 0 rfl rfl (by decide) ?_
        refine z_iload_n hJ d_Rd_letHoursGo_47 2 rfl ?_
        refine z_iald hJ d_Rd_letHoursGo_48 3 (j) rfl rfl (by omega) (by decide) ?_
        refine z_aload_n hJ d_Rd_letHoursGo_49 0 rfl ?_
        refine z_get hJ d_Rd_letHoursGo_50 hc_Rd f_Rd_28 0 rfl rfl (by decide) ?_
        refine z_iload_n hJ d_Rd_letHoursGo_53 2 rfl ?_
        refine z_iald hJ d_Rd_letHoursGo_54 2 (j) rfl rfl (by omega) (by decide) ?_
        refine z_isub hJ d_Rd_letHoursGo_55 ?_
        refine z_istore (lv' := [(0, _), (1, _), (2, _), (3, _), (4, _)]) hJ d_Rd_letHoursGo_56 (by decide) rfl ?_
        refine z_aload_n hJ d_Rd_letHoursGo_58 0 rfl ?_
        refine z_get hJ d_Rd_letHoursGo_59 hc_Rd f_Rd_28 0 rfl rfl (by decide) ?_
        refine z_iload_n hJ d_Rd_letHoursGo_62 2 rfl ?_
        refine z_dup2 hJ d_Rd_letHoursGo_63 rfl rfl ?_
        refine z_iald hJ d_Rd_letHoursGo_64 2 (j) rfl rfl (by omega) (by decide) ?_
        refine z_iload_n hJ d_Rd_letHoursGo_65 3 rfl ?_
        refine z_ineg hJ d_Rd_letHoursGo_66 ?_
        refine z_iload_n hJ d_Rd_letHoursGo_67 3 rfl ?_
        refine z_iload hJ d_Rd_letHoursGo_68 4 rfl ?_
        refine z_mmin hJ d_Rd_letHoursGo_70 k_Rd_102 (Nat.le_of_ble_eq_true rfl) ⟨by decide, by decide⟩ ?_
        refine z_c (y := q_min _ _) rfl ?_
        refine z_mmax hJ d_Rd_letHoursGo_73 k_Rd_82 (Nat.le_of_ble_eq_true rfl) ⟨by decide, by decide⟩ ?_
        refine z_c (y := q_max _ _) rfl ?_
        refine z_iadd hJ d_Rd_letHoursGo_76 ?_
        refine z_n (fun x_2 e_2 => ?_)
        refine z_iast (w' := rW g b (P.1 + h, P.2.1, P.2.2.1, P.2.2.2.1, P.2.2.2.2.1, upd (q_goM P h j) (j) x_2, P.2.2.2.2.2.2.1, P.2.2.2.2.2.2.2.1, P.2.2.2.2.2.2.2.2.1, P.2.2.2.2.2.2.2.2.2.1, P.2.2.2.2.2.2.2.2.2.2.1, P.2.2.2.2.2.2.2.2.2.2.2)) hJ d_Rd_letHoursGo_77 2 (j) rfl rfl (by omega) (by decide) rfl ?_
        refine z_iinc (v := nI (j + 1)) (lv' := [(0, _), (1, _), (2, _), (3, _), (4, _)]) hJ d_Rd_letHoursGo_78 2 rfl (zinc _) (by decide) rfl ?_
        refine z_goto hJ d_Rd_letHoursGo_81 ?_
        refine z_drop hJ [0, 1, 2] rfl ?_
        subst e_1
        subst e_2
        have e := ih (by omega)
        simp only [q_goM, c_28] at e
        exact e
  subst e_1
  exact L12 0 (Nat.zero_le _)
set_option maxRecDepth 100000 in
theorem m_Rd_spread {g : Nat → Nat → Nat} {b : Nat → Nat} {P : RS}  (hn : P.2.1 ≤ 7) : zM g y_Rd_spread b_Rd_spread 4 (some .int) 1 [.ref (b 0)] (rW g b P) [.int (q_spread P)] (rW g b P) := by
  refine zMi (lv := [(0, .ref (b 0))]) (by decide) (Nat.le_of_ble_eq_true rfl) rfl (fun J hJ hR => ?_)
  refine z_aload_n hJ d_Rd_spread_0 0 rfl ?_
  refine z_get hJ d_Rd_spread_1 hc_Rd f_Rd_15 0 rfl rfl (by decide) ?_
  refine z_if_ne hJ d_Rd_spread_4 (fun c_4 => ?_) (fun c_4 => ?_)
  · skip
    have h_4 : ¬ (P.2.1 = 0) := by
      have e := nI_eq (a := P.2.1) (b := 0) (by omega) (by omega)
      exact fun q => c_4 (e.mpr q)
    refine z_aload_n hJ d_Rd_spread_9 0 rfl ?_
    refine z_get hJ d_Rd_spread_10 hc_Rd f_Rd_28 0 rfl rfl (by decide) ?_
    refine z_iconst (v := 0) hJ d_Rd_spread_13 (by decide) ?_
    refine z_iald hJ d_Rd_spread_14 2 (0) rfl rfl (by decide) (by decide) ?_
    refine z_istore_n (lv' := [(0, _), (1, _)]) hJ d_Rd_spread_15 (by decide) rfl ?_
    refine z_aload_n hJ d_Rd_spread_16 0 rfl ?_
    refine z_get hJ d_Rd_spread_17 hc_Rd f_Rd_28 0 rfl rfl (by decide) ?_
    refine z_iconst (v := 0) hJ d_Rd_spread_20 (by decide) ?_
    refine z_iald hJ d_Rd_spread_21 2 (0) rfl rfl (by decide) (by decide) ?_
    refine z_istore_n (lv' := [(0, _), (1, _), (2, _)]) hJ d_Rd_spread_22 (by decide) rfl ?_
    refine z_iconst (v := 1) hJ d_Rd_spread_23 (by decide) ?_
    refine z_istore_n (lv' := [(0, _), (1, _), (2, _), (3, _)]) hJ d_Rd_spread_24 (by decide) rfl ?_
    have L25 : ∀ j : Nat, j ≤ P.2.1 → 1 ≤ j → J (rW g b P) 25 [(0, .ref (b 0)), (1, .int (q_lo (rm P) j)), (2, .int (q_hi (rm P) j)), (3, .int (nI j))] [] := by
      refine zloop (P.2.1) (fun j hjN ih => ?_)
      intro hj1
      refine z_iload_n hJ d_Rd_spread_25 3 rfl ?_
      refine z_aload_n hJ d_Rd_spread_26 0 rfl ?_
      refine z_get hJ d_Rd_spread_27 hc_Rd f_Rd_15 0 rfl rfl (by decide) ?_
      refine z_icmp_ge hJ d_Rd_spread_30 (fun c_30 => ?_) (fun c_30 => ?_)
      · skip
        have h_30 : P.2.1 ≤ j := by
          have e := nI_leI (a := P.2.1) (b := j) (by omega) (by omega)
          exact e.mp c_30
        obtain rfl : j = P.2.1 := by omega
        refine z_iload_n hJ d_Rd_spread_61 2 rfl ?_
        refine z_iload_n hJ d_Rd_spread_62 1 rfl ?_
        refine z_isub hJ d_Rd_spread_63 ?_
        exact z_ri hR d_Rd_spread_64 (by simp [q_spread, h_4]) rfl
      · skip
        have h_30 : ¬ (P.2.1 ≤ j) := by
          have e := nI_leI (a := P.2.1) (b := j) (by omega) (by omega)
          exact fun q => c_30 (e.mpr q)
        refine z_iload_n hJ d_Rd_spread_33 1 rfl ?_
        refine z_aload_n hJ d_Rd_spread_34 0 rfl ?_
        refine z_get hJ d_Rd_spread_35 hc_Rd f_Rd_28 0 rfl rfl (by decide) ?_
        refine z_iload_n hJ d_Rd_spread_38 3 rfl ?_
        refine z_iald hJ d_Rd_spread_39 2 (j) rfl rfl (by omega) (by decide) ?_
        refine z_mmin hJ d_Rd_spread_40 k_Rd_102 (Nat.le_of_ble_eq_true rfl) ⟨by decide, by decide⟩ ?_
        refine z_c (y := q_min _ _) rfl ?_
        refine z_istore_n (lv' := [(0, _), (1, _), (2, _), (3, _)]) hJ d_Rd_spread_43 (by decide) rfl ?_
        refine z_iload_n hJ d_Rd_spread_44 2 rfl ?_
        refine z_aload_n hJ d_Rd_spread_45 0 rfl ?_
        refine z_get hJ d_Rd_spread_46 hc_Rd f_Rd_28 0 rfl rfl (by decide) ?_
        refine z_iload_n hJ d_Rd_spread_49 3 rfl ?_
        refine z_iald hJ d_Rd_spread_50 2 (j) rfl rfl (by omega) (by decide) ?_
        refine z_mmax hJ d_Rd_spread_51 k_Rd_82 (Nat.le_of_ble_eq_true rfl) ⟨by decide, by decide⟩ ?_
        refine z_c (y := q_max _ _) rfl ?_
        refine z_istore_n (lv' := [(0, _), (1, _), (2, _), (3, _)]) hJ d_Rd_spread_54 (by decide) rfl ?_
        refine z_iinc (v := nI (j + 1)) (lv' := [(0, _), (1, _), (2, _), (3, _)]) hJ d_Rd_spread_55 3 rfl (zinc _) (by decide) rfl ?_
        refine z_goto hJ d_Rd_spread_58 ?_
        exact ih (by omega) (by omega)
    have e := L25 1 (by omega) (Nat.le_refl 1)
    rw [q_lo_1, q_hi_1] at e
    exact e
  · skip
    have h_4 : P.2.1 = 0 := by
      have e := nI_eq (a := P.2.1) (b := 0) (by omega) (by omega)
      exact e.mp c_4
    refine z_iconst (v := 0) hJ d_Rd_spread_7 (by decide) ?_
    exact z_ri hR d_Rd_spread_8 (by simp [q_spread, h_4]) rfl
