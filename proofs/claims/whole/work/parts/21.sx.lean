set_option maxRecDepth 100000 in
theorem m_Sx_tell_0 {g : Nat → Nat → Nat} {a : Nat → Nat} {f : Nat → Int32} {P K T : RS} {tp : TS} {ss : Nat → SS} {es : Nat → Int32} {kp : Bool}  : zM g y_Sx_tell b_Sx_tell 3 (some .int) 1 [.ref (a 0), .int (-1000000001)] (xW g a f P K T tp ss es kp) [.int (-1000000001)] (xW g a (q_tel f 0) P K T tp ss es kp) := by
  refine zMi (lv := [(0, .ref (a 0)), (1, .int (-1000000001))]) (by decide) (Nat.le_of_ble_eq_true rfl) rfl (fun J hJ hR => ?_)
  refine z_ldc hJ d_Sx_tell_0 c_Sx_54 ?_
  refine z_iload_n hJ d_Sx_tell_2 1 rfl ?_
  refine z_isub hJ d_Sx_tell_3 ?_
  refine z_c (y := 0) (by decide) ?_
  refine z_istore_n (lv' := [(0, _), (1, _), (2, _)]) hJ d_Sx_tell_4 (by decide) rfl ?_
  refine z_iload_n hJ d_Sx_tell_5 2 rfl ?_
  refine z_iconst (v := 0) hJ d_Sx_tell_6 (by decide) ?_
  refine z_bipush (v := 6) hJ d_Sx_tell_7 (by decide) ?_
  refine z_callSi hJ m_Sx_isWithin k_Sx_110 zL.nil d_Sx_tell_9 rfl rfl (Nat.le_of_ble_eq_true rfl) ⟨by decide, by decide⟩ ?_
  refine zb_eq hJ d_Sx_tell_12 (fun c_12 => False.elim (by exact absurd c_12 (by decide))) (fun c_12 => ?_)
  refine z_aload_n hJ d_Sx_tell_15 0 rfl ?_
  refine z_get hJ d_Sx_tell_16 hc_Sx f_Sx_9 0 rfl rfl (by decide) ?_
  refine z_iload_n hJ d_Sx_tell_19 2 rfl ?_
  refine z_dup2 hJ d_Sx_tell_20 rfl rfl ?_
  refine z_iald hJ d_Sx_tell_21 1 (0) rfl rfl (by decide) (by decide) ?_
  refine z_iconst (v := 1) hJ d_Sx_tell_22 (by decide) ?_
  refine z_iadd hJ d_Sx_tell_23 ?_
  refine z_n (fun x_1 e_1 => ?_)
  refine z_iast (w' := xW g a (upd f (0) x_1) P K T tp ss es kp) hJ d_Sx_tell_24 1 (0) rfl rfl (by decide) (by decide) rfl ?_
  refine z_iload_n hJ d_Sx_tell_25 1 rfl ?_
  subst e_1
  exact z_ri hR d_Sx_tell_26 rfl rfl
set_option maxRecDepth 100000 in
theorem m_Sx_tell_1 {g : Nat → Nat → Nat} {a : Nat → Nat} {f : Nat → Int32} {P K T : RS} {tp : TS} {ss : Nat → SS} {es : Nat → Int32} {kp : Bool}  : zM g y_Sx_tell b_Sx_tell 3 (some .int) 1 [.ref (a 0), .int (-1000000002)] (xW g a f P K T tp ss es kp) [.int (-1000000002)] (xW g a (q_tel f 1) P K T tp ss es kp) := by
  refine zMi (lv := [(0, .ref (a 0)), (1, .int (-1000000002))]) (by decide) (Nat.le_of_ble_eq_true rfl) rfl (fun J hJ hR => ?_)
  refine z_ldc hJ d_Sx_tell_0 c_Sx_54 ?_
  refine z_iload_n hJ d_Sx_tell_2 1 rfl ?_
  refine z_isub hJ d_Sx_tell_3 ?_
  refine z_c (y := 1) (by decide) ?_
  refine z_istore_n (lv' := [(0, _), (1, _), (2, _)]) hJ d_Sx_tell_4 (by decide) rfl ?_
  refine z_iload_n hJ d_Sx_tell_5 2 rfl ?_
  refine z_iconst (v := 0) hJ d_Sx_tell_6 (by decide) ?_
  refine z_bipush (v := 6) hJ d_Sx_tell_7 (by decide) ?_
  refine z_callSi hJ m_Sx_isWithin k_Sx_110 zL.nil d_Sx_tell_9 rfl rfl (Nat.le_of_ble_eq_true rfl) ⟨by decide, by decide⟩ ?_
  refine zb_eq hJ d_Sx_tell_12 (fun c_12 => False.elim (by exact absurd c_12 (by decide))) (fun c_12 => ?_)
  refine z_aload_n hJ d_Sx_tell_15 0 rfl ?_
  refine z_get hJ d_Sx_tell_16 hc_Sx f_Sx_9 0 rfl rfl (by decide) ?_
  refine z_iload_n hJ d_Sx_tell_19 2 rfl ?_
  refine z_dup2 hJ d_Sx_tell_20 rfl rfl ?_
  refine z_iald hJ d_Sx_tell_21 1 (1) rfl rfl (by decide) (by decide) ?_
  refine z_iconst (v := 1) hJ d_Sx_tell_22 (by decide) ?_
  refine z_iadd hJ d_Sx_tell_23 ?_
  refine z_n (fun x_1 e_1 => ?_)
  refine z_iast (w' := xW g a (upd f (1) x_1) P K T tp ss es kp) hJ d_Sx_tell_24 1 (1) rfl rfl (by decide) (by decide) rfl ?_
  refine z_iload_n hJ d_Sx_tell_25 1 rfl ?_
  subst e_1
  exact z_ri hR d_Sx_tell_26 rfl rfl
set_option maxRecDepth 100000 in
theorem m_Sx_tell_2 {g : Nat → Nat → Nat} {a : Nat → Nat} {f : Nat → Int32} {P K T : RS} {tp : TS} {ss : Nat → SS} {es : Nat → Int32} {kp : Bool}  : zM g y_Sx_tell b_Sx_tell 3 (some .int) 1 [.ref (a 0), .int (-1000000003)] (xW g a f P K T tp ss es kp) [.int (-1000000003)] (xW g a (q_tel f 2) P K T tp ss es kp) := by
  refine zMi (lv := [(0, .ref (a 0)), (1, .int (-1000000003))]) (by decide) (Nat.le_of_ble_eq_true rfl) rfl (fun J hJ hR => ?_)
  refine z_ldc hJ d_Sx_tell_0 c_Sx_54 ?_
  refine z_iload_n hJ d_Sx_tell_2 1 rfl ?_
  refine z_isub hJ d_Sx_tell_3 ?_
  refine z_c (y := 2) (by decide) ?_
  refine z_istore_n (lv' := [(0, _), (1, _), (2, _)]) hJ d_Sx_tell_4 (by decide) rfl ?_
  refine z_iload_n hJ d_Sx_tell_5 2 rfl ?_
  refine z_iconst (v := 0) hJ d_Sx_tell_6 (by decide) ?_
  refine z_bipush (v := 6) hJ d_Sx_tell_7 (by decide) ?_
  refine z_callSi hJ m_Sx_isWithin k_Sx_110 zL.nil d_Sx_tell_9 rfl rfl (Nat.le_of_ble_eq_true rfl) ⟨by decide, by decide⟩ ?_
  refine zb_eq hJ d_Sx_tell_12 (fun c_12 => False.elim (by exact absurd c_12 (by decide))) (fun c_12 => ?_)
  refine z_aload_n hJ d_Sx_tell_15 0 rfl ?_
  refine z_get hJ d_Sx_tell_16 hc_Sx f_Sx_9 0 rfl rfl (by decide) ?_
  refine z_iload_n hJ d_Sx_tell_19 2 rfl ?_
  refine z_dup2 hJ d_Sx_tell_20 rfl rfl ?_
  refine z_iald hJ d_Sx_tell_21 1 (2) rfl rfl (by decide) (by decide) ?_
  refine z_iconst (v := 1) hJ d_Sx_tell_22 (by decide) ?_
  refine z_iadd hJ d_Sx_tell_23 ?_
  refine z_n (fun x_1 e_1 => ?_)
  refine z_iast (w' := xW g a (upd f (2) x_1) P K T tp ss es kp) hJ d_Sx_tell_24 1 (2) rfl rfl (by decide) (by decide) rfl ?_
  refine z_iload_n hJ d_Sx_tell_25 1 rfl ?_
  subst e_1
  exact z_ri hR d_Sx_tell_26 rfl rfl
set_option maxRecDepth 100000 in
theorem m_Sx_tell_3 {g : Nat → Nat → Nat} {a : Nat → Nat} {f : Nat → Int32} {P K T : RS} {tp : TS} {ss : Nat → SS} {es : Nat → Int32} {kp : Bool}  : zM g y_Sx_tell b_Sx_tell 3 (some .int) 1 [.ref (a 0), .int (-1000000004)] (xW g a f P K T tp ss es kp) [.int (-1000000004)] (xW g a (q_tel f 3) P K T tp ss es kp) := by
  refine zMi (lv := [(0, .ref (a 0)), (1, .int (-1000000004))]) (by decide) (Nat.le_of_ble_eq_true rfl) rfl (fun J hJ hR => ?_)
  refine z_ldc hJ d_Sx_tell_0 c_Sx_54 ?_
  refine z_iload_n hJ d_Sx_tell_2 1 rfl ?_
  refine z_isub hJ d_Sx_tell_3 ?_
  refine z_c (y := 3) (by decide) ?_
  refine z_istore_n (lv' := [(0, _), (1, _), (2, _)]) hJ d_Sx_tell_4 (by decide) rfl ?_
  refine z_iload_n hJ d_Sx_tell_5 2 rfl ?_
  refine z_iconst (v := 0) hJ d_Sx_tell_6 (by decide) ?_
  refine z_bipush (v := 6) hJ d_Sx_tell_7 (by decide) ?_
  refine z_callSi hJ m_Sx_isWithin k_Sx_110 zL.nil d_Sx_tell_9 rfl rfl (Nat.le_of_ble_eq_true rfl) ⟨by decide, by decide⟩ ?_
  refine zb_eq hJ d_Sx_tell_12 (fun c_12 => False.elim (by exact absurd c_12 (by decide))) (fun c_12 => ?_)
  refine z_aload_n hJ d_Sx_tell_15 0 rfl ?_
  refine z_get hJ d_Sx_tell_16 hc_Sx f_Sx_9 0 rfl rfl (by decide) ?_
  refine z_iload_n hJ d_Sx_tell_19 2 rfl ?_
  refine z_dup2 hJ d_Sx_tell_20 rfl rfl ?_
  refine z_iald hJ d_Sx_tell_21 1 (3) rfl rfl (by decide) (by decide) ?_
  refine z_iconst (v := 1) hJ d_Sx_tell_22 (by decide) ?_
  refine z_iadd hJ d_Sx_tell_23 ?_
  refine z_n (fun x_1 e_1 => ?_)
  refine z_iast (w' := xW g a (upd f (3) x_1) P K T tp ss es kp) hJ d_Sx_tell_24 1 (3) rfl rfl (by decide) (by decide) rfl ?_
  refine z_iload_n hJ d_Sx_tell_25 1 rfl ?_
  subst e_1
  exact z_ri hR d_Sx_tell_26 rfl rfl
set_option maxRecDepth 100000 in
theorem m_Sx_tell_4 {g : Nat → Nat → Nat} {a : Nat → Nat} {f : Nat → Int32} {P K T : RS} {tp : TS} {ss : Nat → SS} {es : Nat → Int32} {kp : Bool}  : zM g y_Sx_tell b_Sx_tell 3 (some .int) 1 [.ref (a 0), .int (-1000000005)] (xW g a f P K T tp ss es kp) [.int (-1000000005)] (xW g a (q_tel f 4) P K T tp ss es kp) := by
  refine zMi (lv := [(0, .ref (a 0)), (1, .int (-1000000005))]) (by decide) (Nat.le_of_ble_eq_true rfl) rfl (fun J hJ hR => ?_)
  refine z_ldc hJ d_Sx_tell_0 c_Sx_54 ?_
  refine z_iload_n hJ d_Sx_tell_2 1 rfl ?_
  refine z_isub hJ d_Sx_tell_3 ?_
  refine z_c (y := 4) (by decide) ?_
  refine z_istore_n (lv' := [(0, _), (1, _), (2, _)]) hJ d_Sx_tell_4 (by decide) rfl ?_
  refine z_iload_n hJ d_Sx_tell_5 2 rfl ?_
  refine z_iconst (v := 0) hJ d_Sx_tell_6 (by decide) ?_
  refine z_bipush (v := 6) hJ d_Sx_tell_7 (by decide) ?_
  refine z_callSi hJ m_Sx_isWithin k_Sx_110 zL.nil d_Sx_tell_9 rfl rfl (Nat.le_of_ble_eq_true rfl) ⟨by decide, by decide⟩ ?_
  refine zb_eq hJ d_Sx_tell_12 (fun c_12 => False.elim (by exact absurd c_12 (by decide))) (fun c_12 => ?_)
  refine z_aload_n hJ d_Sx_tell_15 0 rfl ?_
  refine z_get hJ d_Sx_tell_16 hc_Sx f_Sx_9 0 rfl rfl (by decide) ?_
  refine z_iload_n hJ d_Sx_tell_19 2 rfl ?_
  refine z_dup2 hJ d_Sx_tell_20 rfl rfl ?_
  refine z_iald hJ d_Sx_tell_21 1 (4) rfl rfl (by decide) (by decide) ?_
  refine z_iconst (v := 1) hJ d_Sx_tell_22 (by decide) ?_
  refine z_iadd hJ d_Sx_tell_23 ?_
  refine z_n (fun x_1 e_1 => ?_)
  refine z_iast (w' := xW g a (upd f (4) x_1) P K T tp ss es kp) hJ d_Sx_tell_24 1 (4) rfl rfl (by decide) (by decide) rfl ?_
  refine z_iload_n hJ d_Sx_tell_25 1 rfl ?_
  subst e_1
  exact z_ri hR d_Sx_tell_26 rfl rfl
set_option maxRecDepth 100000 in
theorem m_Sx_tell_5 {g : Nat → Nat → Nat} {a : Nat → Nat} {f : Nat → Int32} {P K T : RS} {tp : TS} {ss : Nat → SS} {es : Nat → Int32} {kp : Bool}  : zM g y_Sx_tell b_Sx_tell 3 (some .int) 1 [.ref (a 0), .int (-1000000006)] (xW g a f P K T tp ss es kp) [.int (-1000000006)] (xW g a (q_tel f 5) P K T tp ss es kp) := by
  refine zMi (lv := [(0, .ref (a 0)), (1, .int (-1000000006))]) (by decide) (Nat.le_of_ble_eq_true rfl) rfl (fun J hJ hR => ?_)
  refine z_ldc hJ d_Sx_tell_0 c_Sx_54 ?_
  refine z_iload_n hJ d_Sx_tell_2 1 rfl ?_
  refine z_isub hJ d_Sx_tell_3 ?_
  refine z_c (y := 5) (by decide) ?_
  refine z_istore_n (lv' := [(0, _), (1, _), (2, _)]) hJ d_Sx_tell_4 (by decide) rfl ?_
  refine z_iload_n hJ d_Sx_tell_5 2 rfl ?_
  refine z_iconst (v := 0) hJ d_Sx_tell_6 (by decide) ?_
  refine z_bipush (v := 6) hJ d_Sx_tell_7 (by decide) ?_
  refine z_callSi hJ m_Sx_isWithin k_Sx_110 zL.nil d_Sx_tell_9 rfl rfl (Nat.le_of_ble_eq_true rfl) ⟨by decide, by decide⟩ ?_
  refine zb_eq hJ d_Sx_tell_12 (fun c_12 => False.elim (by exact absurd c_12 (by decide))) (fun c_12 => ?_)
  refine z_aload_n hJ d_Sx_tell_15 0 rfl ?_
  refine z_get hJ d_Sx_tell_16 hc_Sx f_Sx_9 0 rfl rfl (by decide) ?_
  refine z_iload_n hJ d_Sx_tell_19 2 rfl ?_
  refine z_dup2 hJ d_Sx_tell_20 rfl rfl ?_
  refine z_iald hJ d_Sx_tell_21 1 (5) rfl rfl (by decide) (by decide) ?_
  refine z_iconst (v := 1) hJ d_Sx_tell_22 (by decide) ?_
  refine z_iadd hJ d_Sx_tell_23 ?_
  refine z_n (fun x_1 e_1 => ?_)
  refine z_iast (w' := xW g a (upd f (5) x_1) P K T tp ss es kp) hJ d_Sx_tell_24 1 (5) rfl rfl (by decide) (by decide) rfl ?_
  refine z_iload_n hJ d_Sx_tell_25 1 rfl ?_
  subst e_1
  exact z_ri hR d_Sx_tell_26 rfl rfl
set_option maxRecDepth 100000 in
theorem m_Sx_tell_6 {g : Nat → Nat → Nat} {a : Nat → Nat} {f : Nat → Int32} {P K T : RS} {tp : TS} {ss : Nat → SS} {es : Nat → Int32} {kp : Bool}  : zM g y_Sx_tell b_Sx_tell 3 (some .int) 1 [.ref (a 0), .int (-1000000007)] (xW g a f P K T tp ss es kp) [.int (-1000000007)] (xW g a (q_tel f 6) P K T tp ss es kp) := by
  refine zMi (lv := [(0, .ref (a 0)), (1, .int (-1000000007))]) (by decide) (Nat.le_of_ble_eq_true rfl) rfl (fun J hJ hR => ?_)
  refine z_ldc hJ d_Sx_tell_0 c_Sx_54 ?_
  refine z_iload_n hJ d_Sx_tell_2 1 rfl ?_
  refine z_isub hJ d_Sx_tell_3 ?_
  refine z_c (y := 6) (by decide) ?_
  refine z_istore_n (lv' := [(0, _), (1, _), (2, _)]) hJ d_Sx_tell_4 (by decide) rfl ?_
  refine z_iload_n hJ d_Sx_tell_5 2 rfl ?_
  refine z_iconst (v := 0) hJ d_Sx_tell_6 (by decide) ?_
  refine z_bipush (v := 6) hJ d_Sx_tell_7 (by decide) ?_
  refine z_callSi hJ m_Sx_isWithin k_Sx_110 zL.nil d_Sx_tell_9 rfl rfl (Nat.le_of_ble_eq_true rfl) ⟨by decide, by decide⟩ ?_
  refine zb_eq hJ d_Sx_tell_12 (fun c_12 => False.elim (by exact absurd c_12 (by decide))) (fun c_12 => ?_)
  refine z_aload_n hJ d_Sx_tell_15 0 rfl ?_
  refine z_get hJ d_Sx_tell_16 hc_Sx f_Sx_9 0 rfl rfl (by decide) ?_
  refine z_iload_n hJ d_Sx_tell_19 2 rfl ?_
  refine z_dup2 hJ d_Sx_tell_20 rfl rfl ?_
  refine z_iald hJ d_Sx_tell_21 1 (6) rfl rfl (by decide) (by decide) ?_
  refine z_iconst (v := 1) hJ d_Sx_tell_22 (by decide) ?_
  refine z_iadd hJ d_Sx_tell_23 ?_
  refine z_n (fun x_1 e_1 => ?_)
  refine z_iast (w' := xW g a (upd f (6) x_1) P K T tp ss es kp) hJ d_Sx_tell_24 1 (6) rfl rfl (by decide) (by decide) rfl ?_
  refine z_iload_n hJ d_Sx_tell_25 1 rfl ?_
  subst e_1
  exact z_ri hR d_Sx_tell_26 rfl rfl
set_option maxRecDepth 100000 in
theorem m_Sx_isFellow {g : Nat → Nat → Nat} {a : Nat → Nat} {f : Nat → Int32} {P K T : RS} {tp : TS} {ss : Nat → SS} {es : Nat → Int32} {kp : Bool} {i : Int32}  : zM g y_Sx_isFellow b_Sx_isFellow 2 (some .boolean) 1 [.ref (a 0), .int i] (xW g a f P K T tp ss es kp) [.int (zB (q_ix i P.2.1))] (xW g a f P K T tp ss es kp) := by
  refine zMz (lv := [(0, .ref (a 0)), (1, .int i)]) (by decide) (Nat.le_of_ble_eq_true rfl) rfl (fun J hJ hR => ?_)
  refine z_iload_n hJ d_Sx_isFellow_0 1 rfl ?_
  refine z_iconst (v := 0) hJ d_Sx_isFellow_1 (by decide) ?_
  refine z_aload_n hJ d_Sx_isFellow_2 0 rfl ?_
  refine z_get hJ d_Sx_isFellow_3 hc_Sx f_Sx_16 0 rfl rfl (by decide) ?_
  refine z_get hJ d_Sx_isFellow_6 hc_Rd f_Sx_59 2 rfl rfl (by decide) ?_
  refine z_iconst (v := 1) hJ d_Sx_isFellow_9 (by decide) ?_
  refine z_isub hJ d_Sx_isFellow_10 ?_
  refine z_callSi hJ m_Sx_isWithin k_Sx_110 zL.nil d_Sx_isFellow_11 rfl rfl (Nat.le_of_ble_eq_true rfl) ⟨by decide, by decide⟩ ?_
  exact z_ri hR d_Sx_isFellow_14 rfl rfl
set_option maxRecDepth 100000 in
theorem m_Sx_isTask {g : Nat → Nat → Nat} {a : Nat → Nat} {f : Nat → Int32} {P K T : RS} {tp : TS} {ss : Nat → SS} {es : Nat → Int32} {kp : Bool} {i : Int32}  : zM g y_Sx_isTask b_Sx_isTask 2 (some .boolean) 1 [.ref (a 0), .int i] (xW g a f P K T tp ss es kp) [.int (zB (q_ix i P.2.2.1))] (xW g a f P K T tp ss es kp) := by
  refine zMz (lv := [(0, .ref (a 0)), (1, .int i)]) (by decide) (Nat.le_of_ble_eq_true rfl) rfl (fun J hJ hR => ?_)
  refine z_iload_n hJ d_Sx_isTask_0 1 rfl ?_
  refine z_iconst (v := 0) hJ d_Sx_isTask_1 (by decide) ?_
  refine z_aload_n hJ d_Sx_isTask_2 0 rfl ?_
  refine z_get hJ d_Sx_isTask_3 hc_Sx f_Sx_16 0 rfl rfl (by decide) ?_
  refine z_get hJ d_Sx_isTask_6 hc_Rd f_Sx_125 2 rfl rfl (by decide) ?_
  refine z_iconst (v := 1) hJ d_Sx_isTask_9 (by decide) ?_
  refine z_isub hJ d_Sx_isTask_10 ?_
  refine z_callSi hJ m_Sx_isWithin k_Sx_110 zL.nil d_Sx_isTask_11 rfl rfl (Nat.le_of_ble_eq_true rfl) ⟨by decide, by decide⟩ ?_
  exact z_ri hR d_Sx_isTask_14 rfl rfl
set_option maxRecDepth 100000 in
theorem m_Sx_maySet {g : Nat → Nat → Nat} {w v : Int32}  : zM g y_Sx_maySet b_Sx_maySet 2 (some .boolean) 2 [.int w, .int v] ([]) [.int (zB (q_may w v))] ([]) := by
  refine zMz (lv := [(0, .int w), (1, .int v)]) (by decide) (Nat.le_of_ble_eq_true rfl) rfl (fun J hJ hR => ?_)
  refine z_iload_n hJ d_Sx_maySet_0 0 rfl ?_
  refine z_sw (tgt := 57) [(1, 32), (2, 37), (3, 42), (4, 50)] hJ d_Sx_maySet_1 (by decide) (by decide) ?_ (fun c_1 => ?_)
  · intro q hq e
    simp only [List.mem_cons, List.not_mem_nil, or_false] at hq
    rcases hq with rfl | rfl | rfl | rfl
    · have c_1 := e.trans (show Int32.ofInt 1 = 1 by decide)
      refine z_iload_n hJ d_Sx_maySet_32 1 rfl ?_
      refine z_callSi hJ m_Sx_isMile k_Sx_51 zL.nil d_Sx_maySet_33 rfl rfl (Nat.le_of_ble_eq_true rfl) ⟨by decide, by decide⟩ ?_
      exact z_ri hR d_Sx_maySet_36 (by simp [q_may, c_1]; try rfl) rfl
    · have c_1 := e.trans (show Int32.ofInt 2 = 2 by decide)
      refine z_iload_n hJ d_Sx_maySet_37 1 rfl ?_
      refine z_callSi hJ m_Sx_isMile k_Sx_51 zL.nil d_Sx_maySet_38 rfl rfl (Nat.le_of_ble_eq_true rfl) ⟨by decide, by decide⟩ ?_
      exact z_ri hR d_Sx_maySet_41 (by simp [q_may, c_1]; try rfl) rfl
    · have c_1 := e.trans (show Int32.ofInt 3 = 3 by decide)
      refine z_iload_n hJ d_Sx_maySet_42 1 rfl ?_
      refine z_iconst (v := 1) hJ d_Sx_maySet_43 (by decide) ?_
      refine z_bipush (v := 9) hJ d_Sx_maySet_44 (by decide) ?_
      refine z_callSi hJ m_Sx_isWithin k_Sx_110 zL.nil d_Sx_maySet_46 rfl rfl (Nat.le_of_ble_eq_true rfl) ⟨by decide, by decide⟩ ?_
      exact z_ri hR d_Sx_maySet_49 (by simp [q_may, c_1]; try rfl) rfl
    · have c_1 := e.trans (show Int32.ofInt 4 = 4 by decide)
      refine z_iload_n hJ d_Sx_maySet_50 1 rfl ?_
      refine z_iconst (v := 0) hJ d_Sx_maySet_51 (by decide) ?_
      refine z_iconst (v := 1) hJ d_Sx_maySet_52 (by decide) ?_
      refine z_callSi hJ m_Sx_isWithin k_Sx_110 zL.nil d_Sx_maySet_53 rfl rfl (Nat.le_of_ble_eq_true rfl) ⟨by decide, by decide⟩ ?_
      exact z_ri hR d_Sx_maySet_56 (by simp [q_may, c_1]; try rfl) rfl
  · skip
    have s_1 : ¬ w = 1 := fun e => by rw [e] at c_1; exact absurd c_1 (by decide)
    have s_2 : ¬ w = 2 := fun e => by rw [e] at c_1; exact absurd c_1 (by decide)
    have s_3 : ¬ w = 3 := fun e => by rw [e] at c_1; exact absurd c_1 (by decide)
    have s_4 : ¬ w = 4 := fun e => by rw [e] at c_1; exact absurd c_1 (by decide)
    refine z_iconst (v := 0) hJ d_Sx_maySet_57 (by decide) ?_
    exact z_ri hR d_Sx_maySet_58 (by simp [q_may, s_1, s_2, s_3, s_4]; try rfl) rfl
set_option maxRecDepth 100000 in
theorem m_Sx_fellow {g : Nat → Nat → Nat} {a : Nat → Nat} {f : Nat → Int32} {P K T : RS} {tp : TS} {ss : Nat → SS} {es : Nat → Int32} {kp : Bool} {k m : Int32} (hP : zPi P) : zM g y_Sx_fellow b_Sx_fellow 3 (some .int) 2 [.ref (a 0), .int k, .int m] (xW g a f P K T tp ss es kp) [.int (p_fellow f P k m).1] (xW g a (p_fellow f P k m).2.1 (p_fellow f P k m).2.2 K T tp ss es kp) := by
  have hj7 := hP.1
  have hj8 := hP.2.1
  have haw := q_awk_31 hP.1
  have has : P.2.2.2.1 < 2 ^ 31 := Nat.lt_trans hP.2.2 (by decide)
  refine zMi (lv := [(0, .ref (a 0)), (1, .int k), (2, .int m)]) (by decide) (Nat.le_of_ble_eq_true rfl) rfl (fun J hJ hR => ?_)
  refine z_iload_n hJ d_Sx_fellow_0 1 rfl ?_
  refine z_callSi hJ m_Sx_isKind k_Sx_47 zL.nil d_Sx_fellow_1 rfl rfl (Nat.le_of_ble_eq_true rfl) ⟨by decide, by decide⟩ ?_
  refine zb_eq hJ d_Sx_fellow_4 (fun c_4 => ?_) (fun c_4 => ?_)
  · skip
    refine z_aload_n hJ d_Sx_fellow_14 0 rfl ?_
    refine z_ldc hJ d_Sx_fellow_15 c_Sx_54 ?_
    refine z_callVi hJ m_Sx_tell_0 k_Sx_55 zL.id d_Sx_fellow_17 hc_Sx 0 rfl rfl rfl (Nat.le_of_ble_eq_true rfl) ⟨by decide, by decide⟩ ?_
    exact z_ri hR d_Sx_fellow_20 (by simp [p_fellow, c_4]; try rfl) (by simp [p_fellow, c_4])
  · skip
    refine z_iload_n hJ d_Sx_fellow_7 2 rfl ?_
    refine z_callSi hJ m_Sx_isMile k_Sx_51 zL.nil d_Sx_fellow_8 rfl rfl (Nat.le_of_ble_eq_true rfl) ⟨by decide, by decide⟩ ?_
    refine zb_ne hJ d_Sx_fellow_11 (fun c_11 => ?_) (fun c_11 => ?_)
    · skip
      refine z_aload_n hJ d_Sx_fellow_21 0 rfl ?_
      refine z_get hJ d_Sx_fellow_22 hc_Sx f_Sx_16 0 rfl rfl (by decide) ?_
      refine z_get hJ d_Sx_fellow_25 hc_Rd f_Sx_59 2 rfl rfl (by decide) ?_
      refine z_bipush (v := 7) hJ d_Sx_fellow_28 (by decide) ?_
      refine z_icmp_lt hJ d_Sx_fellow_30 (fun c_30 => ?_) (fun c_30 => ?_)
      · skip
        have h_30 : P.2.1 < 7 := by
          have e := nI_ltI (a := P.2.1) (b := 7) (by omega) (by omega)
          exact e.mp c_30
        refine z_aload_n hJ d_Sx_fellow_40 0 rfl ?_
        refine z_get hJ d_Sx_fellow_41 hc_Sx f_Sx_16 0 rfl rfl (by decide) ?_
        refine z_iload_n hJ d_Sx_fellow_44 1 rfl ?_
        refine z_iload_n hJ d_Sx_fellow_45 2 rfl ?_
        refine z_callVi hJ (m_Rd_addFellow (by omega)) k_Sx_64 zL_P d_Sx_fellow_46 hc_Rd 2 rfl rfl rfl (Nat.le_of_ble_eq_true rfl) ⟨by decide, by decide⟩ ?_
        exact z_ri hR d_Sx_fellow_49 (by simp [p_fellow, h_30, c_4, c_11, c_30]; try rfl) (by simp [p_fellow, h_30, c_4, c_11, c_30])
      · skip
        have h_30 : ¬ (P.2.1 < 7) := by
          have e := nI_ltI (a := P.2.1) (b := 7) (by omega) (by omega)
          exact fun q => c_30 (e.mpr q)
        refine z_aload_n hJ d_Sx_fellow_33 0 rfl ?_
        refine z_ldc hJ d_Sx_fellow_34 c_Sx_63 ?_
        refine z_callVi hJ m_Sx_tell_1 k_Sx_55 zL.id d_Sx_fellow_36 hc_Sx 0 rfl rfl rfl (Nat.le_of_ble_eq_true rfl) ⟨by decide, by decide⟩ ?_
        exact z_ri hR d_Sx_fellow_39 (by simp [p_fellow, h_30, c_4, c_11, c_30]; try rfl) (by simp [p_fellow, h_30, c_4, c_11, c_30])
    · skip
      refine z_aload_n hJ d_Sx_fellow_14 0 rfl ?_
      refine z_ldc hJ d_Sx_fellow_15 c_Sx_54 ?_
      refine z_callVi hJ m_Sx_tell_0 k_Sx_55 zL.id d_Sx_fellow_17 hc_Sx 0 rfl rfl rfl (Nat.le_of_ble_eq_true rfl) ⟨by decide, by decide⟩ ?_
      exact z_ri hR d_Sx_fellow_20 (by simp [p_fellow, c_4, c_11]; try rfl) (by simp [p_fellow, c_4, c_11])
set_option maxRecDepth 100000 in
theorem m_Sx_of {g : Nat → Nat → Nat} {a : Nat → Nat} {f : Nat → Int32} {P K T : RS} {tp : TS} {ss : Nat → SS} {es : Nat → Int32} {kp : Bool} {i w : Int32} (hP : zPi P) : zM g y_Sx_of b_Sx_of 3 (some .int) 2 [.ref (a 0), .int i, .int w] (xW g a f P K T tp ss es kp) [.int (p_of f P i w).1] (xW g a (p_of f P i w).2 P K T tp ss es kp) := by
  refine zMi (lv := [(0, .ref (a 0)), (1, .int i), (2, .int w)]) (by decide) (Nat.le_of_ble_eq_true rfl) rfl (fun J hJ hR => ?_)
  rcases q_ix_or i (n := P.2.1) (by first | exact Nat.le_trans hP.1 (by decide) | exact hP.2.1) with ⟨j, hj, rfl⟩ | hq
  · have hj7 := hP.1
    have hj8 := hP.2.1
    have haw := q_awk_31 hP.1
    have has : P.2.2.2.1 < 2 ^ 31 := Nat.lt_trans hP.2.2 (by decide)
    have hq := q_ix_t hj (n := P.2.1) (by omega)
    have hcl : (nI j).toNatClampNeg = j := nI_clamp (by omega)
    refine z_aload_n hJ d_Sx_of_0 0 rfl ?_
    refine z_iload_n hJ d_Sx_of_1 1 rfl ?_
    refine z_callVi hJ m_Sx_isFellow k_Sx_68 zL.id d_Sx_of_2 hc_Sx 0 rfl rfl rfl (Nat.le_of_ble_eq_true rfl) ⟨by decide, by decide⟩ ?_
    refine zb_ne hJ d_Sx_of_5 (fun c_5 => ?_) (fun c_5 => False.elim (by rw [hq] at c_5; exact absurd c_5 (by decide)))
    refine z_iload_n hJ d_Sx_of_15 2 rfl ?_
    refine z_sw (tgt := 170) [(0, 64), (1, 74), (2, 84), (3, 94), (4, 104), (5, 124), (6, 148), (7, 161)] hJ d_Sx_of_16 (by decide) (by decide) ?_ (fun c_16 => ?_)
    · intro q hq e
      simp only [List.mem_cons, List.not_mem_nil, or_false] at hq
      rcases hq with rfl | rfl | rfl | rfl | rfl | rfl | rfl | rfl
      · have c_16 := e.trans (show Int32.ofInt 0 = 0 by decide)
        refine z_aload_n hJ d_Sx_of_64 0 rfl ?_
        refine z_get hJ d_Sx_of_65 hc_Sx f_Sx_16 0 rfl rfl (by decide) ?_
        refine z_get hJ d_Sx_of_68 hc_Rd f_Sx_71 2 rfl rfl (by decide) ?_
        refine z_iload_n hJ d_Sx_of_71 1 rfl ?_
        refine z_iald hJ d_Sx_of_72 3 (j) rfl rfl (by omega) (by decide) ?_
        exact z_ri hR d_Sx_of_73 (by simp [p_of, hq, hcl, c_5, c_16]; try rfl) (by simp [p_of, hq, hcl, c_5, c_16])
      · have c_16 := e.trans (show Int32.ofInt 1 = 1 by decide)
        refine z_aload_n hJ d_Sx_of_74 0 rfl ?_
        refine z_get hJ d_Sx_of_75 hc_Sx f_Sx_16 0 rfl rfl (by decide) ?_
        refine z_get hJ d_Sx_of_78 hc_Rd f_Sx_74 2 rfl rfl (by decide) ?_
        refine z_iload_n hJ d_Sx_of_81 1 rfl ?_
        refine z_iald hJ d_Sx_of_82 4 (j) rfl rfl (by omega) (by decide) ?_
        exact z_ri hR d_Sx_of_83 (by simp [p_of, hq, hcl, c_5, c_16]; try rfl) (by simp [p_of, hq, hcl, c_5, c_16])
      · have c_16 := e.trans (show Int32.ofInt 2 = 2 by decide)
        refine z_aload_n hJ d_Sx_of_84 0 rfl ?_
        refine z_get hJ d_Sx_of_85 hc_Sx f_Sx_16 0 rfl rfl (by decide) ?_
        refine z_get hJ d_Sx_of_88 hc_Rd f_Sx_77 2 rfl rfl (by decide) ?_
        refine z_iload_n hJ d_Sx_of_91 1 rfl ?_
        refine z_iald hJ d_Sx_of_92 5 (j) rfl rfl (by omega) (by decide) ?_
        exact z_ri hR d_Sx_of_93 (by simp [p_of, hq, hcl, c_5, c_16]; try rfl) (by simp [p_of, hq, hcl, c_5, c_16])
      · have c_16 := e.trans (show Int32.ofInt 3 = 3 by decide)
        refine z_aload_n hJ d_Sx_of_94 0 rfl ?_
        refine z_get hJ d_Sx_of_95 hc_Sx f_Sx_16 0 rfl rfl (by decide) ?_
        refine z_get hJ d_Sx_of_98 hc_Rd f_Sx_80 2 rfl rfl (by decide) ?_
        refine z_iload_n hJ d_Sx_of_101 1 rfl ?_
        refine z_iald hJ d_Sx_of_102 6 (j) rfl rfl (by omega) (by decide) ?_
        exact z_ri hR d_Sx_of_103 (by simp [p_of, hq, hcl, c_5, c_16]; try rfl) (by simp [p_of, hq, hcl, c_5, c_16])
      · have c_16 := e.trans (show Int32.ofInt 4 = 4 by decide)
        refine z_aload_n hJ d_Sx_of_104 0 rfl ?_
        refine z_get hJ d_Sx_of_105 hc_Sx f_Sx_16 0 rfl rfl (by decide) ?_
        refine z_get hJ d_Sx_of_108 hc_Rd f_Sx_83 2 rfl rfl (by decide) ?_
        refine z_iload_n hJ d_Sx_of_111 1 rfl ?_
        refine z_callSi hJ (m_Sx_has has (by omega)) k_Sx_86 zL.nil d_Sx_of_112 rfl rfl (Nat.le_of_ble_eq_true rfl) ⟨by decide, by decide⟩ ?_
        refine zb_eq hJ d_Sx_of_115 (fun c_115 => ?_) (fun c_115 => ?_)
        · skip
          refine z_iconst (v := 0) hJ d_Sx_of_122 (by decide) ?_
          exact z_ri hR d_Sx_of_123 (by simp [p_of, hq, hcl, c_5, c_16, c_115]; try rfl) (by simp [p_of, hq, hcl, c_5, c_16, c_115])
        · skip
          refine z_iconst (v := 1) hJ d_Sx_of_118 (by decide) ?_
          refine z_goto hJ d_Sx_of_119 ?_
          exact z_ri hR d_Sx_of_123 (by simp [p_of, hq, hcl, c_5, c_16, c_115]; try rfl) (by simp [p_of, hq, hcl, c_5, c_16, c_115])
      · have c_16 := e.trans (show Int32.ofInt 5 = 5 by decide)
        refine z_aload_n hJ d_Sx_of_124 0 rfl ?_
        refine z_get hJ d_Sx_of_125 hc_Sx f_Sx_16 0 rfl rfl (by decide) ?_
        refine z_iload_n hJ d_Sx_of_128 1 rfl ?_
        refine z_aload_n hJ d_Sx_of_129 0 rfl ?_
        refine z_get hJ d_Sx_of_130 hc_Sx f_Sx_16 0 rfl rfl (by decide) ?_
        refine z_callVi hJ (m_Rd_awakeSet hP.1) k_Sx_90 zL_P d_Sx_of_133 hc_Rd 2 rfl rfl rfl (Nat.le_of_ble_eq_true rfl) ⟨by decide, by decide⟩ ?_
        refine z_callVi hJ (m_Rd_isSpoilt hP.1 (by omega) haw) k_Sx_94 zL_P d_Sx_of_136 hc_Rd 2 rfl rfl rfl (Nat.le_of_ble_eq_true rfl) ⟨by decide, by decide⟩ ?_
        refine zb_eq hJ d_Sx_of_139 (fun c_139 => ?_) (fun c_139 => ?_)
        · skip
          refine z_iconst (v := 0) hJ d_Sx_of_146 (by decide) ?_
          exact z_ri hR d_Sx_of_147 (by simp [p_of, hq, hcl, c_5, c_16, c_139]; try rfl) (by simp [p_of, hq, hcl, c_5, c_16, c_139])
        · skip
          refine z_iconst (v := 1) hJ d_Sx_of_142 (by decide) ?_
          refine z_goto hJ d_Sx_of_143 ?_
          exact z_ri hR d_Sx_of_147 (by simp [p_of, hq, hcl, c_5, c_16, c_139]; try rfl) (by simp [p_of, hq, hcl, c_5, c_16, c_139])
      · have c_16 := e.trans (show Int32.ofInt 6 = 6 by decide)
        refine z_aload_n hJ d_Sx_of_148 0 rfl ?_
        refine z_get hJ d_Sx_of_149 hc_Sx f_Sx_16 0 rfl rfl (by decide) ?_
        refine z_get hJ d_Sx_of_152 hc_Rd f_Sx_71 2 rfl rfl (by decide) ?_
        refine z_iload_n hJ d_Sx_of_155 1 rfl ?_
        refine z_iald hJ d_Sx_of_156 3 (j) rfl rfl (by omega) (by decide) ?_
        refine z_callSi hJ m_Sx_paceOf k_Sx_97 zL.nil d_Sx_of_157 rfl rfl (Nat.le_of_ble_eq_true rfl) ⟨by decide, by decide⟩ ?_
        exact z_ri hR d_Sx_of_160 (by simp [p_of, hq, hcl, c_5, c_16]; try rfl) (by simp [p_of, hq, hcl, c_5, c_16])
      · have c_16 := e.trans (show Int32.ofInt 7 = 7 by decide)
        refine z_aload_n hJ d_Sx_of_161 0 rfl ?_
        refine z_get hJ d_Sx_of_162 hc_Sx f_Sx_16 0 rfl rfl (by decide) ?_
        refine z_iload_n hJ d_Sx_of_165 1 rfl ?_
        refine z_callVi hJ (m_Rd_hoursToGoal (by omega)) k_Sx_100 zL_P d_Sx_of_166 hc_Rd 2 rfl rfl rfl (Nat.le_of_ble_eq_true rfl) ⟨by decide, by decide⟩ ?_
        exact z_ri hR d_Sx_of_169 (by simp [p_of, hq, hcl, c_5, c_16]; try rfl) (by simp [p_of, hq, hcl, c_5, c_16])
    · skip
      have s_0 : ¬ w = 0 := fun e => by rw [e] at c_16; exact absurd c_16 (by decide)
      have s_1 : ¬ w = 1 := fun e => by rw [e] at c_16; exact absurd c_16 (by decide)
      have s_2 : ¬ w = 2 := fun e => by rw [e] at c_16; exact absurd c_16 (by decide)
      have s_3 : ¬ w = 3 := fun e => by rw [e] at c_16; exact absurd c_16 (by decide)
      have s_4 : ¬ w = 4 := fun e => by rw [e] at c_16; exact absurd c_16 (by decide)
      have s_5 : ¬ w = 5 := fun e => by rw [e] at c_16; exact absurd c_16 (by decide)
      have s_6 : ¬ w = 6 := fun e => by rw [e] at c_16; exact absurd c_16 (by decide)
      have s_7 : ¬ w = 7 := fun e => by rw [e] at c_16; exact absurd c_16 (by decide)
      refine z_aload_n hJ d_Sx_of_170 0 rfl ?_
      refine z_ldc hJ d_Sx_of_171 c_Sx_54 ?_
      refine z_callVi hJ m_Sx_tell_0 k_Sx_55 zL.id d_Sx_of_173 hc_Sx 0 rfl rfl rfl (Nat.le_of_ble_eq_true rfl) ⟨by decide, by decide⟩ ?_
      exact z_ri hR d_Sx_of_176 (by simp [p_of, hq, hcl, s_0, s_1, s_2, s_3, s_4, s_5, s_6, s_7, c_5, c_16]; try rfl) (by simp [p_of, hq, hcl, s_0, s_1, s_2, s_3, s_4, s_5, s_6, s_7, c_5, c_16])
  · skip
    refine z_aload_n hJ d_Sx_of_0 0 rfl ?_
    refine z_iload_n hJ d_Sx_of_1 1 rfl ?_
    refine z_callVi hJ m_Sx_isFellow k_Sx_68 zL.id d_Sx_of_2 hc_Sx 0 rfl rfl rfl (Nat.le_of_ble_eq_true rfl) ⟨by decide, by decide⟩ ?_
    refine zb_ne hJ d_Sx_of_5 (fun c_5 => False.elim (by rw [hq] at c_5; exact absurd c_5 (by decide))) (fun c_5 => ?_)
    refine z_aload_n hJ d_Sx_of_8 0 rfl ?_
    refine z_ldc hJ d_Sx_of_9 c_Sx_54 ?_
    refine z_callVi hJ m_Sx_tell_0 k_Sx_55 zL.id d_Sx_of_11 hc_Sx 0 rfl rfl rfl (Nat.le_of_ble_eq_true rfl) ⟨by decide, by decide⟩ ?_
    exact z_ri hR d_Sx_of_14 (by simp [p_of, hq, c_5]; try rfl) (by simp [p_of, hq, c_5])
set_option maxRecDepth 100000 in
theorem m_Sx_turn {g : Nat → Nat → Nat} {a : Nat → Nat} {f : Nat → Int32} {P K T : RS} {tp : TS} {ss : Nat → SS} {es : Nat → Int32} {kp : Bool} {i k : Int32} (hP : zPi P) : zM g y_Sx_turn b_Sx_turn 4 (some .int) 2 [.ref (a 0), .int i, .int k] (xW g a f P K T tp ss es kp) [.int (p_turn f P i k).1] (xW g a (p_turn f P i k).2.1 (p_turn f P i k).2.2 K T tp ss es kp) := by
  refine zMi (lv := [(0, .ref (a 0)), (1, .int i), (2, .int k)]) (by decide) (Nat.le_of_ble_eq_true rfl) rfl (fun J hJ hR => ?_)
  rcases q_ix_or i (n := P.2.1) (by first | exact Nat.le_trans hP.1 (by decide) | exact hP.2.1) with ⟨j, hj, rfl⟩ | hq
  · have hj7 := hP.1
    have hj8 := hP.2.1
    have haw := q_awk_31 hP.1
    have has : P.2.2.2.1 < 2 ^ 31 := Nat.lt_trans hP.2.2 (by decide)
    have hq := q_ix_t hj (n := P.2.1) (by omega)
    have hcl : (nI j).toNatClampNeg = j := nI_clamp (by omega)
    refine z_aload_n hJ d_Sx_turn_0 0 rfl ?_
    refine z_iload_n hJ d_Sx_turn_1 1 rfl ?_
    refine z_callVi hJ m_Sx_isFellow k_Sx_68 zL.id d_Sx_turn_2 hc_Sx 0 rfl rfl rfl (Nat.le_of_ble_eq_true rfl) ⟨by decide, by decide⟩ ?_
    refine zb_eq hJ d_Sx_turn_5 (fun c_5 => False.elim (by rw [hq] at c_5; exact absurd c_5 (by decide))) (fun c_5 => ?_)
    refine z_iload_n hJ d_Sx_turn_8 2 rfl ?_
    refine z_callSi hJ m_Sx_isKind k_Sx_47 zL.nil d_Sx_turn_9 rfl rfl (Nat.le_of_ble_eq_true rfl) ⟨by decide, by decide⟩ ?_
    refine zb_ne hJ d_Sx_turn_12 (fun c_12 => ?_) (fun c_12 => ?_)
    · skip
      refine z_aload_n hJ d_Sx_turn_22 0 rfl ?_
      refine z_get hJ d_Sx_turn_23 hc_Sx f_Sx_16 0 rfl rfl (by decide) ?_
      refine z_get hJ d_Sx_turn_26 hc_Rd f_Sx_71 2 rfl rfl (by decide) ?_
      refine z_iload_n hJ d_Sx_turn_29 1 rfl ?_
      refine z_iald hJ d_Sx_turn_30 3 (j) rfl rfl (by omega) (by decide) ?_
      refine z_istore_n (lv' := [(0, _), (1, _), (2, _), (3, _)]) hJ d_Sx_turn_31 (by decide) rfl ?_
      refine z_aload_n hJ d_Sx_turn_32 0 rfl ?_
      refine z_get hJ d_Sx_turn_33 hc_Sx f_Sx_16 0 rfl rfl (by decide) ?_
      refine z_get hJ d_Sx_turn_36 hc_Rd f_Sx_71 2 rfl rfl (by decide) ?_
      refine z_iload_n hJ d_Sx_turn_39 1 rfl ?_
      refine z_iload_n hJ d_Sx_turn_40 2 rfl ?_
      refine z_n (fun x_1 e_1 => ?_)
      refine z_iast (w' := xW g a f (P.1, P.2.1, P.2.2.1, P.2.2.2.1, upd P.2.2.2.2.1 (j) x_1, P.2.2.2.2.2.1, P.2.2.2.2.2.2.1, P.2.2.2.2.2.2.2.1, P.2.2.2.2.2.2.2.2.1, P.2.2.2.2.2.2.2.2.2.1, P.2.2.2.2.2.2.2.2.2.2.1, P.2.2.2.2.2.2.2.2.2.2.2) K T tp ss es kp) hJ d_Sx_turn_41 3 (j) rfl rfl (by omega) (by decide) rfl ?_
      refine z_iload_n hJ d_Sx_turn_42 3 rfl ?_
      subst e_1
      exact z_ri hR d_Sx_turn_43 (by simp [p_turn, hq, hcl, q_setK, c_5, c_12]; try rfl) (by simp [p_turn, hq, hcl, q_setK, c_5, c_12])
    · skip
      refine z_aload_n hJ d_Sx_turn_15 0 rfl ?_
      refine z_ldc hJ d_Sx_turn_16 c_Sx_54 ?_
      refine z_callVi hJ m_Sx_tell_0 k_Sx_55 zL.id d_Sx_turn_18 hc_Sx 0 rfl rfl rfl (Nat.le_of_ble_eq_true rfl) ⟨by decide, by decide⟩ ?_
      exact z_ri hR d_Sx_turn_21 (by simp [p_turn, hq, hcl, q_setK, c_5, c_12]; try rfl) (by simp [p_turn, hq, hcl, q_setK, c_5, c_12])
  · skip
    refine z_aload_n hJ d_Sx_turn_0 0 rfl ?_
    refine z_iload_n hJ d_Sx_turn_1 1 rfl ?_
    refine z_callVi hJ m_Sx_isFellow k_Sx_68 zL.id d_Sx_turn_2 hc_Sx 0 rfl rfl rfl (Nat.le_of_ble_eq_true rfl) ⟨by decide, by decide⟩ ?_
    refine zb_eq hJ d_Sx_turn_5 (fun c_5 => ?_) (fun c_5 => False.elim (by rw [hq] at c_5; exact absurd c_5 (by decide)))
    refine z_aload_n hJ d_Sx_turn_15 0 rfl ?_
    refine z_ldc hJ d_Sx_turn_16 c_Sx_54 ?_
    refine z_callVi hJ m_Sx_tell_0 k_Sx_55 zL.id d_Sx_turn_18 hc_Sx 0 rfl rfl rfl (Nat.le_of_ble_eq_true rfl) ⟨by decide, by decide⟩ ?_
    exact z_ri hR d_Sx_turn_21 (by simp [p_turn, hq, c_5]; try rfl) (by simp [p_turn, hq, c_5])
set_option maxRecDepth 100000 in
theorem m_Sx_as {g : Nat → Nat → Nat} {a : Nat → Nat} {f : Nat → Int32} {P K T : RS} {tp : TS} {ss : Nat → SS} {es : Nat → Int32} {kp : Bool} {i k : Int32} (hP : zPi P) : zM g y_Sx_as b_Sx_as 3 (some .int) 2 [.ref (a 0), .int i, .int k] (xW g a f P K T tp ss es kp) [.int (p_as f P i k).1] (xW g a (p_as f P i k).2 P K T tp ss es kp) := by
  refine zMi (lv := [(0, .ref (a 0)), (1, .int i), (2, .int k)]) (by decide) (Nat.le_of_ble_eq_true rfl) rfl (fun J hJ hR => ?_)
  rcases q_ix_or i (n := P.2.1) (by first | exact Nat.le_trans hP.1 (by decide) | exact hP.2.1) with ⟨j, hj, rfl⟩ | hq
  · have hj7 := hP.1
    have hj8 := hP.2.1
    have haw := q_awk_31 hP.1
    have has : P.2.2.2.1 < 2 ^ 31 := Nat.lt_trans hP.2.2 (by decide)
    have hq := q_ix_t hj (n := P.2.1) (by omega)
    have hcl : (nI j).toNatClampNeg = j := nI_clamp (by omega)
    refine z_aload_n hJ d_Sx_as_0 0 rfl ?_
    refine z_iload_n hJ d_Sx_as_1 1 rfl ?_
    refine z_callVi hJ m_Sx_isFellow k_Sx_68 zL.id d_Sx_as_2 hc_Sx 0 rfl rfl rfl (Nat.le_of_ble_eq_true rfl) ⟨by decide, by decide⟩ ?_
    refine zb_eq hJ d_Sx_as_5 (fun c_5 => False.elim (by rw [hq] at c_5; exact absurd c_5 (by decide))) (fun c_5 => ?_)
    refine z_iload_n hJ d_Sx_as_8 2 rfl ?_
    refine z_callSi hJ m_Sx_isKind k_Sx_47 zL.nil d_Sx_as_9 rfl rfl (Nat.le_of_ble_eq_true rfl) ⟨by decide, by decide⟩ ?_
    refine zb_ne hJ d_Sx_as_12 (fun c_12 => ?_) (fun c_12 => ?_)
    · skip
      refine z_aload_n hJ d_Sx_as_22 0 rfl ?_
      refine z_get hJ d_Sx_as_23 hc_Sx f_Sx_16 0 rfl rfl (by decide) ?_
      refine z_get hJ d_Sx_as_26 hc_Rd f_Sx_71 2 rfl rfl (by decide) ?_
      refine z_iload_n hJ d_Sx_as_29 1 rfl ?_
      refine z_iald hJ d_Sx_as_30 3 (j) rfl rfl (by omega) (by decide) ?_
      refine z_iload_n hJ d_Sx_as_31 2 rfl ?_
      refine z_callSi hJ m_Sx_isOfKind k_Sx_114 zL.nil d_Sx_as_32 rfl rfl (Nat.le_of_ble_eq_true rfl) ⟨by decide, by decide⟩ ?_
      refine zb_ne hJ d_Sx_as_35 (fun c_35 => ?_) (fun c_35 => ?_)
      · skip
        refine z_aload_n hJ d_Sx_as_45 0 rfl ?_
        refine z_get hJ d_Sx_as_46 hc_Sx f_Sx_16 0 rfl rfl (by decide) ?_
        refine z_get hJ d_Sx_as_49 hc_Rd f_Sx_80 2 rfl rfl (by decide) ?_
        refine z_iload_n hJ d_Sx_as_52 1 rfl ?_
        refine z_iald hJ d_Sx_as_53 6 (j) rfl rfl (by omega) (by decide) ?_
        exact z_ri hR d_Sx_as_54 (by simp [p_as, hq, hcl, c_5, c_12, c_35]; try rfl) (by simp [p_as, hq, hcl, c_5, c_12, c_35])
      · skip
        refine z_aload_n hJ d_Sx_as_38 0 rfl ?_
        refine z_ldc hJ d_Sx_as_39 c_Sx_117 ?_
        refine z_callVi hJ m_Sx_tell_2 k_Sx_55 zL.id d_Sx_as_41 hc_Sx 0 rfl rfl rfl (Nat.le_of_ble_eq_true rfl) ⟨by decide, by decide⟩ ?_
        exact z_ri hR d_Sx_as_44 (by simp [p_as, hq, hcl, c_5, c_12, c_35]; try rfl) (by simp [p_as, hq, hcl, c_5, c_12, c_35])
    · skip
      refine z_aload_n hJ d_Sx_as_15 0 rfl ?_
      refine z_ldc hJ d_Sx_as_16 c_Sx_54 ?_
      refine z_callVi hJ m_Sx_tell_0 k_Sx_55 zL.id d_Sx_as_18 hc_Sx 0 rfl rfl rfl (Nat.le_of_ble_eq_true rfl) ⟨by decide, by decide⟩ ?_
      exact z_ri hR d_Sx_as_21 (by simp [p_as, hq, hcl, c_5, c_12]; try rfl) (by simp [p_as, hq, hcl, c_5, c_12])
  · skip
    refine z_aload_n hJ d_Sx_as_0 0 rfl ?_
    refine z_iload_n hJ d_Sx_as_1 1 rfl ?_
    refine z_callVi hJ m_Sx_isFellow k_Sx_68 zL.id d_Sx_as_2 hc_Sx 0 rfl rfl rfl (Nat.le_of_ble_eq_true rfl) ⟨by decide, by decide⟩ ?_
    refine zb_eq hJ d_Sx_as_5 (fun c_5 => ?_) (fun c_5 => False.elim (by rw [hq] at c_5; exact absurd c_5 (by decide)))
    refine z_aload_n hJ d_Sx_as_15 0 rfl ?_
    refine z_ldc hJ d_Sx_as_16 c_Sx_54 ?_
    refine z_callVi hJ m_Sx_tell_0 k_Sx_55 zL.id d_Sx_as_18 hc_Sx 0 rfl rfl rfl (Nat.le_of_ble_eq_true rfl) ⟨by decide, by decide⟩ ?_
    exact z_ri hR d_Sx_as_21 (by simp [p_as, hq, c_5]; try rfl) (by simp [p_as, hq, c_5])
set_option maxRecDepth 100000 in
theorem m_Sx_does {g : Nat → Nat → Nat} {a : Nat → Nat} {f : Nat → Int32} {P K T : RS} {tp : TS} {ss : Nat → SS} {es : Nat → Int32} {kp : Bool} {i k : Int32} (hP : zPi P) : zM g y_Sx_does b_Sx_does 3 (some .int) 2 [.ref (a 0), .int i, .int k] (xW g a f P K T tp ss es kp) [.int (p_does f P i k).1] (xW g a (p_does f P i k).2 P K T tp ss es kp) := by
  refine zMi (lv := [(0, .ref (a 0)), (1, .int i), (2, .int k)]) (by decide) (Nat.le_of_ble_eq_true rfl) rfl (fun J hJ hR => ?_)
  rcases q_ix_or i (n := P.2.1) (by first | exact Nat.le_trans hP.1 (by decide) | exact hP.2.1) with ⟨j, hj, rfl⟩ | hq
  · have hj7 := hP.1
    have hj8 := hP.2.1
    have haw := q_awk_31 hP.1
    have has : P.2.2.2.1 < 2 ^ 31 := Nat.lt_trans hP.2.2 (by decide)
    have hq := q_ix_t hj (n := P.2.1) (by omega)
    have hcl : (nI j).toNatClampNeg = j := nI_clamp (by omega)
    refine z_aload_n hJ d_Sx_does_0 0 rfl ?_
    refine z_iload_n hJ d_Sx_does_1 1 rfl ?_
    refine z_callVi hJ m_Sx_isFellow k_Sx_68 zL.id d_Sx_does_2 hc_Sx 0 rfl rfl rfl (Nat.le_of_ble_eq_true rfl) ⟨by decide, by decide⟩ ?_
    refine zb_eq hJ d_Sx_does_5 (fun c_5 => False.elim (by rw [hq] at c_5; exact absurd c_5 (by decide))) (fun c_5 => ?_)
    refine z_iload_n hJ d_Sx_does_8 2 rfl ?_
    refine z_callSi hJ m_Sx_isSort k_Sx_118 zL.nil d_Sx_does_9 rfl rfl (Nat.le_of_ble_eq_true rfl) ⟨by decide, by decide⟩ ?_
    refine zb_ne hJ d_Sx_does_12 (fun c_12 => ?_) (fun c_12 => ?_)
    · skip
      refine z_aload_n hJ d_Sx_does_22 0 rfl ?_
      refine z_get hJ d_Sx_does_23 hc_Sx f_Sx_16 0 rfl rfl (by decide) ?_
      refine z_get hJ d_Sx_does_26 hc_Rd f_Sx_71 2 rfl rfl (by decide) ?_
      refine z_iload_n hJ d_Sx_does_29 1 rfl ?_
      refine z_iald hJ d_Sx_does_30 3 (j) rfl rfl (by omega) (by decide) ?_
      refine z_iload_n hJ d_Sx_does_31 2 rfl ?_
      refine z_aload_n hJ d_Sx_does_32 0 rfl ?_
      refine z_get hJ d_Sx_does_33 hc_Sx f_Sx_16 0 rfl rfl (by decide) ?_
      refine z_get hJ d_Sx_does_36 hc_Rd f_Sx_80 2 rfl rfl (by decide) ?_
      refine z_iload_n hJ d_Sx_does_39 1 rfl ?_
      refine z_iald hJ d_Sx_does_40 6 (j) rfl rfl (by omega) (by decide) ?_
      refine z_callSi hJ m_Sx_workOf k_Sx_121 zL.nil d_Sx_does_41 rfl rfl (Nat.le_of_ble_eq_true rfl) ⟨by decide, by decide⟩ ?_
      exact z_ri hR d_Sx_does_44 (by simp [p_does, hq, hcl, c_5, c_12]; try rfl) (by simp [p_does, hq, hcl, c_5, c_12])
    · skip
      refine z_aload_n hJ d_Sx_does_15 0 rfl ?_
      refine z_ldc hJ d_Sx_does_16 c_Sx_54 ?_
      refine z_callVi hJ m_Sx_tell_0 k_Sx_55 zL.id d_Sx_does_18 hc_Sx 0 rfl rfl rfl (Nat.le_of_ble_eq_true rfl) ⟨by decide, by decide⟩ ?_
      exact z_ri hR d_Sx_does_21 (by simp [p_does, hq, hcl, c_5, c_12]; try rfl) (by simp [p_does, hq, hcl, c_5, c_12])
  · skip
    refine z_aload_n hJ d_Sx_does_0 0 rfl ?_
    refine z_iload_n hJ d_Sx_does_1 1 rfl ?_
    refine z_callVi hJ m_Sx_isFellow k_Sx_68 zL.id d_Sx_does_2 hc_Sx 0 rfl rfl rfl (Nat.le_of_ble_eq_true rfl) ⟨by decide, by decide⟩ ?_
    refine zb_eq hJ d_Sx_does_5 (fun c_5 => ?_) (fun c_5 => False.elim (by rw [hq] at c_5; exact absurd c_5 (by decide)))
    refine z_aload_n hJ d_Sx_does_15 0 rfl ?_
    refine z_ldc hJ d_Sx_does_16 c_Sx_54 ?_
    refine z_callVi hJ m_Sx_tell_0 k_Sx_55 zL.id d_Sx_does_18 hc_Sx 0 rfl rfl rfl (Nat.le_of_ble_eq_true rfl) ⟨by decide, by decide⟩ ?_
    exact z_ri hR d_Sx_does_21 (by simp [p_does, hq, c_5]; try rfl) (by simp [p_does, hq, c_5])
set_option maxRecDepth 100000 in
theorem m_Sx_task {g : Nat → Nat → Nat} {a : Nat → Nat} {f : Nat → Int32} {P K T : RS} {tp : TS} {ss : Nat → SS} {es : Nat → Int32} {kp : Bool} {so m ne pa : Int32} (hP : zPi P) : zM g y_Sx_task b_Sx_task 5 (some .int) 2 [.ref (a 0), .int so, .int m, .int ne, .int pa] (xW g a f P K T tp ss es kp) [.int (p_task f P so m ne pa).1] (xW g a (p_task f P so m ne pa).2.1 (p_task f P so m ne pa).2.2 K T tp ss es kp) := by
  have hj7 := hP.1
  have hj8 := hP.2.1
  have haw := q_awk_31 hP.1
  have has : P.2.2.2.1 < 2 ^ 31 := Nat.lt_trans hP.2.2 (by decide)
  refine zMi (lv := [(0, .ref (a 0)), (1, .int so), (2, .int m), (3, .int ne), (4, .int pa)]) (by decide) (Nat.le_of_ble_eq_true rfl) rfl (fun J hJ hR => ?_)
  refine z_iload_n hJ d_Sx_task_0 1 rfl ?_
  refine z_callSi hJ m_Sx_isSort k_Sx_118 zL.nil d_Sx_task_1 rfl rfl (Nat.le_of_ble_eq_true rfl) ⟨by decide, by decide⟩ ?_
  refine zb_eq hJ d_Sx_task_4 (fun c_4 => ?_) (fun c_4 => ?_)
  · skip
    refine z_aload_n hJ d_Sx_task_35 0 rfl ?_
    refine z_ldc hJ d_Sx_task_36 c_Sx_54 ?_
    refine z_callVi hJ m_Sx_tell_0 k_Sx_55 zL.id d_Sx_task_38 hc_Sx 0 rfl rfl rfl (Nat.le_of_ble_eq_true rfl) ⟨by decide, by decide⟩ ?_
    exact z_ri hR d_Sx_task_41 (by simp [p_task, c_4]; try rfl) (by simp [p_task, c_4])
  · skip
    refine z_iload_n hJ d_Sx_task_7 2 rfl ?_
    refine z_callSi hJ m_Sx_isMile k_Sx_51 zL.nil d_Sx_task_8 rfl rfl (Nat.le_of_ble_eq_true rfl) ⟨by decide, by decide⟩ ?_
    refine zb_eq hJ d_Sx_task_11 (fun c_11 => ?_) (fun c_11 => ?_)
    · skip
      refine z_aload_n hJ d_Sx_task_35 0 rfl ?_
      refine z_ldc hJ d_Sx_task_36 c_Sx_54 ?_
      refine z_callVi hJ m_Sx_tell_0 k_Sx_55 zL.id d_Sx_task_38 hc_Sx 0 rfl rfl rfl (Nat.le_of_ble_eq_true rfl) ⟨by decide, by decide⟩ ?_
      exact z_ri hR d_Sx_task_41 (by simp [p_task, c_4, c_11]; try rfl) (by simp [p_task, c_4, c_11])
    · skip
      refine z_iload_n hJ d_Sx_task_14 3 rfl ?_
      refine z_iconst (v := 1) hJ d_Sx_task_15 (by decide) ?_
      refine z_bipush (v := 99) hJ d_Sx_task_16 (by decide) ?_
      refine z_callSi hJ m_Sx_isWithin k_Sx_110 zL.nil d_Sx_task_18 rfl rfl (Nat.le_of_ble_eq_true rfl) ⟨by decide, by decide⟩ ?_
      refine zb_eq hJ d_Sx_task_21 (fun c_21 => ?_) (fun c_21 => ?_)
      · skip
        refine z_aload_n hJ d_Sx_task_35 0 rfl ?_
        refine z_ldc hJ d_Sx_task_36 c_Sx_54 ?_
        refine z_callVi hJ m_Sx_tell_0 k_Sx_55 zL.id d_Sx_task_38 hc_Sx 0 rfl rfl rfl (Nat.le_of_ble_eq_true rfl) ⟨by decide, by decide⟩ ?_
        exact z_ri hR d_Sx_task_41 (by simp [p_task, c_4, c_11, c_21]; try rfl) (by simp [p_task, c_4, c_11, c_21])
      · skip
        refine z_iload hJ d_Sx_task_24 4 rfl ?_
        refine z_iconst (v := 0) hJ d_Sx_task_26 (by decide) ?_
        refine z_bipush (v := 99) hJ d_Sx_task_27 (by decide) ?_
        refine z_callSi hJ m_Sx_isWithin k_Sx_110 zL.nil d_Sx_task_29 rfl rfl (Nat.le_of_ble_eq_true rfl) ⟨by decide, by decide⟩ ?_
        refine zb_ne hJ d_Sx_task_32 (fun c_32 => ?_) (fun c_32 => ?_)
        · skip
          refine z_aload_n hJ d_Sx_task_42 0 rfl ?_
          refine z_get hJ d_Sx_task_43 hc_Sx f_Sx_16 0 rfl rfl (by decide) ?_
          refine z_get hJ d_Sx_task_46 hc_Rd f_Sx_125 2 rfl rfl (by decide) ?_
          refine z_bipush (v := 8) hJ d_Sx_task_49 (by decide) ?_
          refine z_icmp_lt hJ d_Sx_task_51 (fun c_51 => ?_) (fun c_51 => ?_)
          · skip
            have h_51 : P.2.2.1 < 8 := by
              have e := nI_ltI (a := P.2.2.1) (b := 8) (by omega) (by omega)
              exact e.mp c_51
            refine z_aload_n hJ d_Sx_task_61 0 rfl ?_
            refine z_get hJ d_Sx_task_62 hc_Sx f_Sx_16 0 rfl rfl (by decide) ?_
            refine z_iload_n hJ d_Sx_task_65 1 rfl ?_
            refine z_iload_n hJ d_Sx_task_66 2 rfl ?_
            refine z_iload_n hJ d_Sx_task_67 3 rfl ?_
            refine z_iload hJ d_Sx_task_68 4 rfl ?_
            refine z_callVi hJ (m_Rd_addTask (by omega)) k_Sx_128 zL_P d_Sx_task_70 hc_Rd 2 rfl rfl rfl (Nat.le_of_ble_eq_true rfl) ⟨by decide, by decide⟩ ?_
            exact z_ri hR d_Sx_task_73 (by simp [p_task, h_51, c_4, c_11, c_21, c_32, c_51]; try rfl) (by simp [p_task, h_51, c_4, c_11, c_21, c_32, c_51])
          · skip
            have h_51 : ¬ (P.2.2.1 < 8) := by
              have e := nI_ltI (a := P.2.2.1) (b := 8) (by omega) (by omega)
              exact fun q => c_51 (e.mpr q)
            refine z_aload_n hJ d_Sx_task_54 0 rfl ?_
            refine z_ldc hJ d_Sx_task_55 c_Sx_63 ?_
            refine z_callVi hJ m_Sx_tell_1 k_Sx_55 zL.id d_Sx_task_57 hc_Sx 0 rfl rfl rfl (Nat.le_of_ble_eq_true rfl) ⟨by decide, by decide⟩ ?_
            exact z_ri hR d_Sx_task_60 (by simp [p_task, h_51, c_4, c_11, c_21, c_32, c_51]; try rfl) (by simp [p_task, h_51, c_4, c_11, c_21, c_32, c_51])
        · skip
          refine z_aload_n hJ d_Sx_task_35 0 rfl ?_
          refine z_ldc hJ d_Sx_task_36 c_Sx_54 ?_
          refine z_callVi hJ m_Sx_tell_0 k_Sx_55 zL.id d_Sx_task_38 hc_Sx 0 rfl rfl rfl (Nat.le_of_ble_eq_true rfl) ⟨by decide, by decide⟩ ?_
          exact z_ri hR d_Sx_task_41 (by simp [p_task, c_4, c_11, c_21, c_32]; try rfl) (by simp [p_task, c_4, c_11, c_21, c_32])
set_option maxRecDepth 100000 in
theorem m_Sx_taskOf {g : Nat → Nat → Nat} {a : Nat → Nat} {f : Nat → Int32} {P K T : RS} {tp : TS} {ss : Nat → SS} {es : Nat → Int32} {kp : Bool} {i w : Int32} (hP : zPi P) : zM g y_Sx_taskOf b_Sx_taskOf 5 (some .int) 4 [.ref (a 0), .int i, .int w] (xW g a f P K T tp ss es kp) [.int (p_taskOf f P i w).1] (xW g a (p_taskOf f P i w).2 P K T tp ss es kp) := by
  refine zMi (lv := [(0, .ref (a 0)), (1, .int i), (2, .int w)]) (by decide) (Nat.le_of_ble_eq_true rfl) rfl (fun J hJ hR => ?_)
  rcases q_ix_or i (n := P.2.2.1) (by first | exact Nat.le_trans hP.1 (by decide) | exact hP.2.1) with ⟨j, hj, rfl⟩ | hq
  · have hj7 := hP.1
    have hj8 := hP.2.1
    have haw := q_awk_31 hP.1
    have has : P.2.2.2.1 < 2 ^ 31 := Nat.lt_trans hP.2.2 (by decide)
    have hq := q_ix_t hj (n := P.2.2.1) (by omega)
    have hcl : (nI j).toNatClampNeg = j := nI_clamp (by omega)
    refine z_aload_n hJ d_Sx_taskOf_0 0 rfl ?_
    refine z_iload_n hJ d_Sx_taskOf_1 1 rfl ?_
    refine z_callVi hJ m_Sx_isTask k_Sx_132 zL.id d_Sx_taskOf_2 hc_Sx 0 rfl rfl rfl (Nat.le_of_ble_eq_true rfl) ⟨by decide, by decide⟩ ?_
    refine zb_ne hJ d_Sx_taskOf_5 (fun c_5 => ?_) (fun c_5 => False.elim (by rw [hq] at c_5; exact absurd c_5 (by decide)))
    refine z_aload_n hJ d_Sx_taskOf_15 0 rfl ?_
    refine z_get hJ d_Sx_taskOf_16 hc_Sx f_Sx_16 0 rfl rfl (by decide) ?_
    refine z_callVi hJ (m_Rd_awakeSet hP.1) k_Sx_90 zL_P d_Sx_taskOf_19 hc_Rd 2 rfl rfl rfl (Nat.le_of_ble_eq_true rfl) ⟨by decide, by decide⟩ ?_
    refine z_istore_n (lv' := [(0, _), (1, _), (2, _), (3, _)]) hJ d_Sx_taskOf_22 (by decide) rfl ?_
    refine z_aload_n hJ d_Sx_taskOf_23 0 rfl ?_
    refine z_get hJ d_Sx_taskOf_24 hc_Sx f_Sx_16 0 rfl rfl (by decide) ?_
    refine z_iload_n hJ d_Sx_taskOf_27 3 rfl ?_
    refine z_callVi hJ (m_Rd_spoiltSet hP.1 (q_awk_31 hP.1)) k_Sx_135 zL_P d_Sx_taskOf_28 hc_Rd 2 rfl rfl rfl (Nat.le_of_ble_eq_true rfl) ⟨by decide, by decide⟩ ?_
    refine z_istore (lv' := [(0, _), (1, _), (2, _), (3, _), (4, _)]) hJ d_Sx_taskOf_31 (by decide) rfl ?_
    refine z_iload_n hJ d_Sx_taskOf_33 2 rfl ?_
    refine z_sw (tgt := 158) [(0, 76), (1, 86), (2, 96), (3, 106), (4, 116), (5, 128), (6, 146)] hJ d_Sx_taskOf_34 (by decide) (by decide) ?_ (fun c_34 => ?_)
    · intro q hq e
      simp only [List.mem_cons, List.not_mem_nil, or_false] at hq
      rcases hq with rfl | rfl | rfl | rfl | rfl | rfl | rfl
      · have c_34 := e.trans (show Int32.ofInt 0 = 0 by decide)
        refine z_aload_n hJ d_Sx_taskOf_76 0 rfl ?_
        refine z_get hJ d_Sx_taskOf_77 hc_Sx f_Sx_16 0 rfl rfl (by decide) ?_
        refine z_get hJ d_Sx_taskOf_80 hc_Rd f_Sx_138 2 rfl rfl (by decide) ?_
        refine z_iload_n hJ d_Sx_taskOf_83 1 rfl ?_
        refine z_iald hJ d_Sx_taskOf_84 7 (j) rfl rfl (by omega) (by decide) ?_
        exact z_ri hR d_Sx_taskOf_85 (by simp [p_taskOf, hq, hcl, c_5, c_34]; try rfl) (by simp [p_taskOf, hq, hcl, c_5, c_34])
      · have c_34 := e.trans (show Int32.ofInt 1 = 1 by decide)
        refine z_aload_n hJ d_Sx_taskOf_86 0 rfl ?_
        refine z_get hJ d_Sx_taskOf_87 hc_Sx f_Sx_16 0 rfl rfl (by decide) ?_
        refine z_get hJ d_Sx_taskOf_90 hc_Rd f_Sx_141 2 rfl rfl (by decide) ?_
        refine z_iload_n hJ d_Sx_taskOf_93 1 rfl ?_
        refine z_iald hJ d_Sx_taskOf_94 8 (j) rfl rfl (by omega) (by decide) ?_
        exact z_ri hR d_Sx_taskOf_95 (by simp [p_taskOf, hq, hcl, c_5, c_34]; try rfl) (by simp [p_taskOf, hq, hcl, c_5, c_34])
      · have c_34 := e.trans (show Int32.ofInt 2 = 2 by decide)
        refine z_aload_n hJ d_Sx_taskOf_96 0 rfl ?_
        refine z_get hJ d_Sx_taskOf_97 hc_Sx f_Sx_16 0 rfl rfl (by decide) ?_
        refine z_get hJ d_Sx_taskOf_100 hc_Rd f_Sx_144 2 rfl rfl (by decide) ?_
        refine z_iload_n hJ d_Sx_taskOf_103 1 rfl ?_
        refine z_iald hJ d_Sx_taskOf_104 9 (j) rfl rfl (by omega) (by decide) ?_
        exact z_ri hR d_Sx_taskOf_105 (by simp [p_taskOf, hq, hcl, c_5, c_34]; try rfl) (by simp [p_taskOf, hq, hcl, c_5, c_34])
      · have c_34 := e.trans (show Int32.ofInt 3 = 3 by decide)
        refine z_aload_n hJ d_Sx_taskOf_106 0 rfl ?_
        refine z_get hJ d_Sx_taskOf_107 hc_Sx f_Sx_16 0 rfl rfl (by decide) ?_
        refine z_get hJ d_Sx_taskOf_110 hc_Rd f_Sx_147 2 rfl rfl (by decide) ?_
        refine z_iload_n hJ d_Sx_taskOf_113 1 rfl ?_
        refine z_iald hJ d_Sx_taskOf_114 10 (j) rfl rfl (by omega) (by decide) ?_
        exact z_ri hR d_Sx_taskOf_115 (by simp [p_taskOf, hq, hcl, c_5, c_34]; try rfl) (by simp [p_taskOf, hq, hcl, c_5, c_34])
      · have c_34 := e.trans (show Int32.ofInt 4 = 4 by decide)
        refine z_aload_n hJ d_Sx_taskOf_116 0 rfl ?_
        refine z_get hJ d_Sx_taskOf_117 hc_Sx f_Sx_16 0 rfl rfl (by decide) ?_
        refine z_iload_n hJ d_Sx_taskOf_120 1 rfl ?_
        refine z_iload_n hJ d_Sx_taskOf_121 3 rfl ?_
        refine z_iload hJ d_Sx_taskOf_122 4 rfl ?_
        refine z_callVi hJ (m_Rd_helpOfAll hP.1 (by omega) haw (q_spm_31 hP.1)) k_Sx_150 zL_P d_Sx_taskOf_124 hc_Rd 2 rfl rfl rfl (Nat.le_of_ble_eq_true rfl) ⟨by decide, by decide⟩ ?_
        exact z_ri hR d_Sx_taskOf_127 (by simp [p_taskOf, hq, hcl, c_5, c_34]; try rfl) (by simp [p_taskOf, hq, hcl, c_5, c_34])
      · have c_34 := e.trans (show Int32.ofInt 5 = 5 by decide)
        refine z_aload_n hJ d_Sx_taskOf_128 0 rfl ?_
        refine z_get hJ d_Sx_taskOf_129 hc_Sx f_Sx_16 0 rfl rfl (by decide) ?_
        refine z_iload_n hJ d_Sx_taskOf_132 1 rfl ?_
        refine z_iload_n hJ d_Sx_taskOf_133 3 rfl ?_
        refine z_callVi hJ (m_Rd_isMet hP.1 (by omega) haw) k_Sx_153 zL_P d_Sx_taskOf_134 hc_Rd 2 rfl rfl rfl (Nat.le_of_ble_eq_true rfl) ⟨by decide, by decide⟩ ?_
        refine zb_eq hJ d_Sx_taskOf_137 (fun c_137 => ?_) (fun c_137 => ?_)
        · skip
          refine z_iconst (v := 0) hJ d_Sx_taskOf_144 (by decide) ?_
          exact z_ri hR d_Sx_taskOf_145 (by simp [p_taskOf, hq, hcl, c_5, c_34, c_137]; try rfl) (by simp [p_taskOf, hq, hcl, c_5, c_34, c_137])
        · skip
          refine z_iconst (v := 1) hJ d_Sx_taskOf_140 (by decide) ?_
          refine z_goto hJ d_Sx_taskOf_141 ?_
          exact z_ri hR d_Sx_taskOf_145 (by simp [p_taskOf, hq, hcl, c_5, c_34, c_137]; try rfl) (by simp [p_taskOf, hq, hcl, c_5, c_34, c_137])
      · have c_34 := e.trans (show Int32.ofInt 6 = 6 by decide)
        refine z_aload_n hJ d_Sx_taskOf_146 0 rfl ?_
        refine z_get hJ d_Sx_taskOf_147 hc_Sx f_Sx_16 0 rfl rfl (by decide) ?_
        refine z_iload_n hJ d_Sx_taskOf_150 1 rfl ?_
        refine z_iload_n hJ d_Sx_taskOf_151 3 rfl ?_
        refine z_iload hJ d_Sx_taskOf_152 4 rfl ?_
        refine z_callVi hJ (m_Rd_helperSet hP.1 (by omega) haw (q_spm_31 hP.1)) k_Sx_156 zL_P d_Sx_taskOf_154 hc_Rd 2 rfl rfl rfl (Nat.le_of_ble_eq_true rfl) ⟨by decide, by decide⟩ ?_
        exact z_ri hR d_Sx_taskOf_157 (by simp [p_taskOf, hq, hcl, c_5, c_34]; try rfl) (by simp [p_taskOf, hq, hcl, c_5, c_34])
    · skip
      have s_0 : ¬ w = 0 := fun e => by rw [e] at c_34; exact absurd c_34 (by decide)
      have s_1 : ¬ w = 1 := fun e => by rw [e] at c_34; exact absurd c_34 (by decide)
      have s_2 : ¬ w = 2 := fun e => by rw [e] at c_34; exact absurd c_34 (by decide)
      have s_3 : ¬ w = 3 := fun e => by rw [e] at c_34; exact absurd c_34 (by decide)
      have s_4 : ¬ w = 4 := fun e => by rw [e] at c_34; exact absurd c_34 (by decide)
      have s_5 : ¬ w = 5 := fun e => by rw [e] at c_34; exact absurd c_34 (by decide)
      have s_6 : ¬ w = 6 := fun e => by rw [e] at c_34; exact absurd c_34 (by decide)
      refine z_aload_n hJ d_Sx_taskOf_158 0 rfl ?_
      refine z_ldc hJ d_Sx_taskOf_159 c_Sx_54 ?_
      refine z_callVi hJ m_Sx_tell_0 k_Sx_55 zL.id d_Sx_taskOf_161 hc_Sx 0 rfl rfl rfl (Nat.le_of_ble_eq_true rfl) ⟨by decide, by decide⟩ ?_
      exact z_ri hR d_Sx_taskOf_164 (by simp [p_taskOf, hq, hcl, s_0, s_1, s_2, s_3, s_4, s_5, s_6, c_5, c_34]; try rfl) (by simp [p_taskOf, hq, hcl, s_0, s_1, s_2, s_3, s_4, s_5, s_6, c_5, c_34])
  · skip
    refine z_aload_n hJ d_Sx_taskOf_0 0 rfl ?_
    refine z_iload_n hJ d_Sx_taskOf_1 1 rfl ?_
    refine z_callVi hJ m_Sx_isTask k_Sx_132 zL.id d_Sx_taskOf_2 hc_Sx 0 rfl rfl rfl (Nat.le_of_ble_eq_true rfl) ⟨by decide, by decide⟩ ?_
    refine zb_ne hJ d_Sx_taskOf_5 (fun c_5 => False.elim (by rw [hq] at c_5; exact absurd c_5 (by decide))) (fun c_5 => ?_)
    refine z_aload_n hJ d_Sx_taskOf_8 0 rfl ?_
    refine z_ldc hJ d_Sx_taskOf_9 c_Sx_54 ?_
    refine z_callVi hJ m_Sx_tell_0 k_Sx_55 zL.id d_Sx_taskOf_11 hc_Sx 0 rfl rfl rfl (Nat.le_of_ble_eq_true rfl) ⟨by decide, by decide⟩ ?_
    exact z_ri hR d_Sx_taskOf_14 (by simp [p_taskOf, hq, c_5]; try rfl) (by simp [p_taskOf, hq, c_5])
set_option maxRecDepth 100000 in
theorem m_Sx_done {g : Nat → Nat → Nat} {a : Nat → Nat} {f : Nat → Int32} {P K T : RS} {tp : TS} {ss : Nat → SS} {es : Nat → Int32} {kp : Bool} {i : Int32} (hP : zPi P) : zM g y_Sx_done b_Sx_done 3 (some .int) 2 [.ref (a 0), .int i] (xW g a f P K T tp ss es kp) [.int (p_done f P i).1] (xW g a (p_done f P i).2.1 (p_done f P i).2.2 K T tp ss es kp) := by
  refine zMi (lv := [(0, .ref (a 0)), (1, .int i)]) (by decide) (Nat.le_of_ble_eq_true rfl) rfl (fun J hJ hR => ?_)
  rcases q_ix_or i (n := P.2.2.1) (by first | exact Nat.le_trans hP.1 (by decide) | exact hP.2.1) with ⟨j, hj, rfl⟩ | hq
  · have hj7 := hP.1
    have hj8 := hP.2.1
    have haw := q_awk_31 hP.1
    have has : P.2.2.2.1 < 2 ^ 31 := Nat.lt_trans hP.2.2 (by decide)
    have hq := q_ix_t hj (n := P.2.2.1) (by omega)
    have hcl : (nI j).toNatClampNeg = j := nI_clamp (by omega)
    refine z_aload_n hJ d_Sx_done_0 0 rfl ?_
    refine z_iload_n hJ d_Sx_done_1 1 rfl ?_
    refine z_callVi hJ m_Sx_isTask k_Sx_132 zL.id d_Sx_done_2 hc_Sx 0 rfl rfl rfl (Nat.le_of_ble_eq_true rfl) ⟨by decide, by decide⟩ ?_
    refine zb_ne hJ d_Sx_done_5 (fun c_5 => ?_) (fun c_5 => False.elim (by rw [hq] at c_5; exact absurd c_5 (by decide)))
    refine z_aload_n hJ d_Sx_done_15 0 rfl ?_
    refine z_get hJ d_Sx_done_16 hc_Sx f_Sx_16 0 rfl rfl (by decide) ?_
    refine z_get hJ d_Sx_done_19 hc_Rd f_Sx_147 2 rfl rfl (by decide) ?_
    refine z_iload_n hJ d_Sx_done_22 1 rfl ?_
    refine z_iald hJ d_Sx_done_23 10 (j) rfl rfl (by omega) (by decide) ?_
    refine z_istore_n (lv' := [(0, _), (1, _), (2, _)]) hJ d_Sx_done_24 (by decide) rfl ?_
    refine z_aload_n hJ d_Sx_done_25 0 rfl ?_
    refine z_get hJ d_Sx_done_26 hc_Sx f_Sx_16 0 rfl rfl (by decide) ?_
    refine z_iload_n hJ d_Sx_done_29 1 rfl ?_
    refine z_callVv hJ (m_Rd_dropTask (d := j) hP.2.1 hj) k_Sx_162 zL_P d_Sx_done_30 hc_Rd 2 rfl rfl rfl (Nat.le_of_ble_eq_true rfl) ⟨by decide, by decide⟩ ?_
    refine z_iload_n hJ d_Sx_done_33 2 rfl ?_
    exact z_ri hR d_Sx_done_34 (by simp [p_done, hq, hcl, c_5]; try rfl) (by simp [p_done, hq, hcl, c_5])
  · skip
    refine z_aload_n hJ d_Sx_done_0 0 rfl ?_
    refine z_iload_n hJ d_Sx_done_1 1 rfl ?_
    refine z_callVi hJ m_Sx_isTask k_Sx_132 zL.id d_Sx_done_2 hc_Sx 0 rfl rfl rfl (Nat.le_of_ble_eq_true rfl) ⟨by decide, by decide⟩ ?_
    refine zb_ne hJ d_Sx_done_5 (fun c_5 => False.elim (by rw [hq] at c_5; exact absurd c_5 (by decide))) (fun c_5 => ?_)
    refine z_aload_n hJ d_Sx_done_8 0 rfl ?_
    refine z_ldc hJ d_Sx_done_9 c_Sx_54 ?_
    refine z_callVi hJ m_Sx_tell_0 k_Sx_55 zL.id d_Sx_done_11 hc_Sx 0 rfl rfl rfl (Nat.le_of_ble_eq_true rfl) ⟨by decide, by decide⟩ ?_
    exact z_ri hR d_Sx_done_14 (by simp [p_done, hq, c_5]; try rfl) (by simp [p_done, hq, c_5])
set_option maxRecDepth 100000 in
theorem m_Sx_hours {g : Nat → Nat → Nat} {a : Nat → Nat} {f : Nat → Int32} {P K T : RS} {tp : TS} {ss : Nat → SS} {es : Nat → Int32} {kp : Bool} {n : Int32} (hP : zPi P) : zM g y_Sx_hours b_Sx_hours 2 (some .int) 5 [.ref (a 0), .int n] (xW g a f P K T tp ss es kp) [.int (p_hours f P n).1] (xW g a (p_hours f P n).2.1 (p_hours f P n).2.2 K T tp ss es kp) := by
  have hj7 := hP.1
  have hj8 := hP.2.1
  have haw := q_awk_31 hP.1
  have has : P.2.2.2.1 < 2 ^ 31 := Nat.lt_trans hP.2.2 (by decide)
  refine zMi (lv := [(0, .ref (a 0)), (1, .int n)]) (by decide) (Nat.le_of_ble_eq_true rfl) rfl (fun J hJ hR => ?_)
  refine z_iload_n hJ d_Sx_hours_0 1 rfl ?_
  refine z_iconst (v := 1) hJ d_Sx_hours_1 (by decide) ?_
  refine z_bipush (v := 60) hJ d_Sx_hours_2 (by decide) ?_
  refine z_callSi hJ m_Sx_isWithin k_Sx_110 zL.nil d_Sx_hours_4 rfl rfl (Nat.le_of_ble_eq_true rfl) ⟨by decide, by decide⟩ ?_
  refine zb_ne hJ d_Sx_hours_7 (fun c_7 => ?_) (fun c_7 => ?_)
  · skip
    refine z_aload_n hJ d_Sx_hours_17 0 rfl ?_
    refine z_get hJ d_Sx_hours_18 hc_Sx f_Sx_16 0 rfl rfl (by decide) ?_
    refine z_get hJ d_Sx_hours_21 hc_Rd f_Sx_166 2 rfl rfl (by decide) ?_
    refine z_iload_n hJ d_Sx_hours_24 1 rfl ?_
    refine z_iadd hJ d_Sx_hours_25 ?_
    refine z_sipush (v := 9999) hJ d_Sx_hours_26 (by decide) ?_
    refine z_icmp_le hJ d_Sx_hours_29 (fun c_29 => ?_) (fun c_29 => ?_)
    · skip
      refine z_aload_n hJ d_Sx_hours_39 0 rfl ?_
      refine z_get hJ d_Sx_hours_40 hc_Sx f_Sx_16 0 rfl rfl (by decide) ?_
      refine z_iload_n hJ d_Sx_hours_43 1 rfl ?_
      refine z_callVv hJ (m_Rd_letHoursGo hP.1 has) k_Sx_170 zL_P d_Sx_hours_44 hc_Rd 2 rfl rfl rfl (Nat.le_of_ble_eq_true rfl) ⟨by decide, by decide⟩ ?_
      refine z_aload_n hJ d_Sx_hours_47 0 rfl ?_
      refine z_get hJ d_Sx_hours_48 hc_Sx f_Sx_16 0 rfl rfl (by decide) ?_
      refine z_aload_n hJ d_Sx_hours_51 0 rfl ?_
      refine z_get hJ d_Sx_hours_52 hc_Sx f_Sx_16 0 rfl rfl (by decide) ?_
      refine z_callVi hJ (m_Rd_awakeSet (P := q_go P n) hP.1) k_Sx_90 zL_P d_Sx_hours_55 hc_Rd 2 rfl rfl rfl (Nat.le_of_ble_eq_true rfl) ⟨by decide, by decide⟩ ?_
      refine z_callVi hJ (m_Rd_earned (P := q_go P n) hP.1 hP.2.1 (q_awk_31 hP.1)) k_Sx_173 zL_P d_Sx_hours_58 hc_Rd 2 rfl rfl rfl (Nat.le_of_ble_eq_true rfl) ⟨by decide, by decide⟩ ?_
      exact z_ri hR d_Sx_hours_61 (by simp [p_hours, c_7, c_29]; try rfl) (by simp [p_hours, c_7, c_29])
    · skip
      refine z_aload_n hJ d_Sx_hours_32 0 rfl ?_
      refine z_ldc hJ d_Sx_hours_33 c_Sx_169 ?_
      refine z_callVi hJ m_Sx_tell_4 k_Sx_55 zL.id d_Sx_hours_35 hc_Sx 0 rfl rfl rfl (Nat.le_of_ble_eq_true rfl) ⟨by decide, by decide⟩ ?_
      exact z_ri hR d_Sx_hours_38 (by simp [p_hours, c_7, c_29]; try rfl) (by simp [p_hours, c_7, c_29])
  · skip
    refine z_aload_n hJ d_Sx_hours_10 0 rfl ?_
    refine z_ldc hJ d_Sx_hours_11 c_Sx_54 ?_
    refine z_callVi hJ m_Sx_tell_0 k_Sx_55 zL.id d_Sx_hours_13 hc_Sx 0 rfl rfl rfl (Nat.le_of_ble_eq_true rfl) ⟨by decide, by decide⟩ ?_
    exact z_ri hR d_Sx_hours_16 (by simp [p_hours, c_7]; try rfl) (by simp [p_hours, c_7])
set_option maxRecDepth 100000 in
theorem m_Sx_now {g : Nat → Nat → Nat} {a : Nat → Nat} {f : Nat → Int32} {P K T : RS} {tp : TS} {ss : Nat → SS} {es : Nat → Int32} {kp : Bool} {w : Int32} (hP : zPi P) : zM g y_Sx_now b_Sx_now 3 (some .int) 5 [.ref (a 0), .int w] (xW g a f P K T tp ss es kp) [.int (p_now f P w).1] (xW g a (p_now f P w).2 P K T tp ss es kp) := by
  have hj7 := hP.1
  have hj8 := hP.2.1
  have haw := q_awk_31 hP.1
  have has : P.2.2.2.1 < 2 ^ 31 := Nat.lt_trans hP.2.2 (by decide)
  refine zMi (lv := [(0, .ref (a 0)), (1, .int w)]) (by decide) (Nat.le_of_ble_eq_true rfl) rfl (fun J hJ hR => ?_)
  refine z_aload_n hJ d_Sx_now_0 0 rfl ?_
  refine z_get hJ d_Sx_now_1 hc_Sx f_Sx_16 0 rfl rfl (by decide) ?_
  refine z_callVi hJ (m_Rd_awakeSet hP.1) k_Sx_90 zL_P d_Sx_now_4 hc_Rd 2 rfl rfl rfl (Nat.le_of_ble_eq_true rfl) ⟨by decide, by decide⟩ ?_
  refine z_istore_n (lv' := [(0, _), (1, _), (2, _)]) hJ d_Sx_now_7 (by decide) rfl ?_
  refine z_iload_n hJ d_Sx_now_8 1 rfl ?_
  refine z_sw (tgt := 99) [(0, 48), (1, 56), (2, 65), (3, 74), (4, 82), (5, 91)] hJ d_Sx_now_9 (by decide) (by decide) ?_ (fun c_9 => ?_)
  · intro q hq e
    simp only [List.mem_cons, List.not_mem_nil, or_false] at hq
    rcases hq with rfl | rfl | rfl | rfl | rfl | rfl
    · have c_9 := e.trans (show Int32.ofInt 0 = 0 by decide)
      refine z_aload_n hJ d_Sx_now_48 0 rfl ?_
      refine z_get hJ d_Sx_now_49 hc_Sx f_Sx_16 0 rfl rfl (by decide) ?_
      refine z_get hJ d_Sx_now_52 hc_Rd f_Sx_166 2 rfl rfl (by decide) ?_
      exact z_ri hR d_Sx_now_55 (by simp [p_now, c_9]; try rfl) (by simp [p_now, c_9])
    · have c_9 := e.trans (show Int32.ofInt 1 = 1 by decide)
      refine z_aload_n hJ d_Sx_now_56 0 rfl ?_
      refine z_get hJ d_Sx_now_57 hc_Sx f_Sx_16 0 rfl rfl (by decide) ?_
      refine z_iload_n hJ d_Sx_now_60 2 rfl ?_
      refine z_callVi hJ (m_Rd_metSet hP.1 hP.2.1 (q_awk_31 hP.1)) k_Sx_176 zL_P d_Sx_now_61 hc_Rd 2 rfl rfl rfl (Nat.le_of_ble_eq_true rfl) ⟨by decide, by decide⟩ ?_
      exact z_ri hR d_Sx_now_64 (by simp [p_now, c_9]; try rfl) (by simp [p_now, c_9])
    · have c_9 := e.trans (show Int32.ofInt 2 = 2 by decide)
      refine z_aload_n hJ d_Sx_now_65 0 rfl ?_
      refine z_get hJ d_Sx_now_66 hc_Sx f_Sx_16 0 rfl rfl (by decide) ?_
      refine z_iload_n hJ d_Sx_now_69 2 rfl ?_
      refine z_callVi hJ (m_Rd_earned hP.1 hP.2.1 (q_awk_31 hP.1)) k_Sx_173 zL_P d_Sx_now_70 hc_Rd 2 rfl rfl rfl (Nat.le_of_ble_eq_true rfl) ⟨by decide, by decide⟩ ?_
      exact z_ri hR d_Sx_now_73 (by simp [p_now, c_9]; try rfl) (by simp [p_now, c_9])
    · have c_9 := e.trans (show Int32.ofInt 3 = 3 by decide)
      refine z_aload_n hJ d_Sx_now_74 0 rfl ?_
      refine z_get hJ d_Sx_now_75 hc_Sx f_Sx_16 0 rfl rfl (by decide) ?_
      refine z_get hJ d_Sx_now_78 hc_Rd f_Sx_83 2 rfl rfl (by decide) ?_
      exact z_ri hR d_Sx_now_81 (by simp [p_now, c_9]; try rfl) (by simp [p_now, c_9])
    · have c_9 := e.trans (show Int32.ofInt 4 = 4 by decide)
      refine z_aload_n hJ d_Sx_now_82 0 rfl ?_
      refine z_get hJ d_Sx_now_83 hc_Sx f_Sx_16 0 rfl rfl (by decide) ?_
      refine z_iload_n hJ d_Sx_now_86 2 rfl ?_
      refine z_callVi hJ (m_Rd_spoiltSet hP.1 (q_awk_31 hP.1)) k_Sx_135 zL_P d_Sx_now_87 hc_Rd 2 rfl rfl rfl (Nat.le_of_ble_eq_true rfl) ⟨by decide, by decide⟩ ?_
      exact z_ri hR d_Sx_now_90 (by simp [p_now, c_9]; try rfl) (by simp [p_now, c_9])
    · have c_9 := e.trans (show Int32.ofInt 5 = 5 by decide)
      refine z_aload_n hJ d_Sx_now_91 0 rfl ?_
      refine z_get hJ d_Sx_now_92 hc_Sx f_Sx_16 0 rfl rfl (by decide) ?_
      refine z_callVi hJ (m_Rd_spread hP.1) k_Sx_179 zL_P d_Sx_now_95 hc_Rd 2 rfl rfl rfl (Nat.le_of_ble_eq_true rfl) ⟨by decide, by decide⟩ ?_
      exact z_ri hR d_Sx_now_98 (by simp [p_now, c_9]; try rfl) (by simp [p_now, c_9])
  · skip
    have s_0 : ¬ w = 0 := fun e => by rw [e] at c_9; exact absurd c_9 (by decide)
    have s_1 : ¬ w = 1 := fun e => by rw [e] at c_9; exact absurd c_9 (by decide)
    have s_2 : ¬ w = 2 := fun e => by rw [e] at c_9; exact absurd c_9 (by decide)
    have s_3 : ¬ w = 3 := fun e => by rw [e] at c_9; exact absurd c_9 (by decide)
    have s_4 : ¬ w = 4 := fun e => by rw [e] at c_9; exact absurd c_9 (by decide)
    have s_5 : ¬ w = 5 := fun e => by rw [e] at c_9; exact absurd c_9 (by decide)
    refine z_aload_n hJ d_Sx_now_99 0 rfl ?_
    refine z_ldc hJ d_Sx_now_100 c_Sx_54 ?_
    refine z_callVi hJ m_Sx_tell_0 k_Sx_55 zL.id d_Sx_now_102 hc_Sx 0 rfl rfl rfl (Nat.le_of_ble_eq_true rfl) ⟨by decide, by decide⟩ ?_
    exact z_ri hR d_Sx_now_105 (by simp [p_now, s_0, s_1, s_2, s_3, s_4, s_5, c_9]; try rfl) (by simp [p_now, s_0, s_1, s_2, s_3, s_4, s_5, c_9])
set_option maxRecDepth 100000 in
theorem m_Sx_on {g : Nat → Nat → Nat} {a : Nat → Nat} {f : Nat → Int32} {P K T : RS} {tp : TS} {ss : Nat → SS} {es : Nat → Int32} {kp : Bool} {n : Int32} (hP : zPi P) : zM g y_Sx_on b_Sx_on 2 (some .int) 4 [.ref (a 0), .int n] (xW g a f P K T tp ss es kp) [.int (p_on f P T n).1] (xW g a (p_on f P T n).2.1 P K (p_on f P T n).2.2 tp ss es kp) := by
  have hj7 := hP.1
  have hj8 := hP.2.1
  have haw := q_awk_31 hP.1
  have has : P.2.2.2.1 < 2 ^ 31 := Nat.lt_trans hP.2.2 (by decide)
  refine zMi (lv := [(0, .ref (a 0)), (1, .int n)]) (by decide) (Nat.le_of_ble_eq_true rfl) rfl (fun J hJ hR => ?_)
  refine z_iload_n hJ d_Sx_on_0 1 rfl ?_
  refine z_iconst (v := 0) hJ d_Sx_on_1 (by decide) ?_
  refine z_bipush (v := 60) hJ d_Sx_on_2 (by decide) ?_
  refine z_callSi hJ m_Sx_isWithin k_Sx_110 zL.nil d_Sx_on_4 rfl rfl (Nat.le_of_ble_eq_true rfl) ⟨by decide, by decide⟩ ?_
  refine zb_ne hJ d_Sx_on_7 (fun c_7 => ?_) (fun c_7 => ?_)
  · skip
    refine z_aload_n hJ d_Sx_on_17 0 rfl ?_
    refine z_get hJ d_Sx_on_18 hc_Sx f_Sx_23 0 rfl rfl (by decide) ?_
    refine z_aload_n hJ d_Sx_on_21 0 rfl ?_
    refine z_get hJ d_Sx_on_22 hc_Sx f_Sx_16 0 rfl rfl (by decide) ?_
    refine z_callVv hJ m_Rd_become k_Sx_182 zL_TP d_Sx_on_25 hc_Rd 20 rfl rfl rfl (Nat.le_of_ble_eq_true rfl) ⟨by decide, by decide⟩ ?_
    refine z_aload_n hJ d_Sx_on_28 0 rfl ?_
    refine z_get hJ d_Sx_on_29 hc_Sx f_Sx_23 0 rfl rfl (by decide) ?_
    refine z_iload_n hJ d_Sx_on_32 1 rfl ?_
    refine z_callVv hJ (m_Rd_letHoursGo (P := P) hP.1 has) k_Sx_170 zL_T d_Sx_on_33 hc_Rd 20 rfl rfl rfl (Nat.le_of_ble_eq_true rfl) ⟨by decide, by decide⟩ ?_
    refine z_aload_n hJ d_Sx_on_36 0 rfl ?_
    refine z_get hJ d_Sx_on_37 hc_Sx f_Sx_23 0 rfl rfl (by decide) ?_
    refine z_aload_n hJ d_Sx_on_40 0 rfl ?_
    refine z_get hJ d_Sx_on_41 hc_Sx f_Sx_23 0 rfl rfl (by decide) ?_
    refine z_callVi hJ (m_Rd_awakeSet (P := q_go P n) hP.1) k_Sx_90 zL_T d_Sx_on_44 hc_Rd 20 rfl rfl rfl (Nat.le_of_ble_eq_true rfl) ⟨by decide, by decide⟩ ?_
    refine z_callVi hJ (m_Rd_metSet (P := q_go P n) hP.1 hP.2.1 (q_awk_31 hP.1)) k_Sx_176 zL_T d_Sx_on_47 hc_Rd 20 rfl rfl rfl (Nat.le_of_ble_eq_true rfl) ⟨by decide, by decide⟩ ?_
    exact z_ri hR d_Sx_on_50 (by simp [p_on, c_7]; try rfl) (by simp [p_on, c_7])
  · skip
    refine z_aload_n hJ d_Sx_on_10 0 rfl ?_
    refine z_ldc hJ d_Sx_on_11 c_Sx_54 ?_
    refine z_callVi hJ m_Sx_tell_0 k_Sx_55 zL.id d_Sx_on_13 hc_Sx 0 rfl rfl rfl (Nat.le_of_ble_eq_true rfl) ⟨by decide, by decide⟩ ?_
    exact z_ri hR d_Sx_on_16 (by simp [p_on, c_7]; try rfl) (by simp [p_on, c_7])
