set_option maxRecDepth 100000 in
theorem m_Mo_finds_0 {g : Nat → Nat → Nat} {a : Nat → Nat} {M : MS}  : zM g y_Mo_finds b_Mo_finds 2 (some .int) 0 [.ref (a 0), .int (-1000000001)] (mW g a M) [.int (-1000000001)] (mW g a (M.1, q_tel M.2.1 0, M.2.2)) := by
  refine zMi (lv := [(0, .ref (a 0)), (1, .int (-1000000001))]) (by decide) (Nat.le_of_ble_eq_true rfl) rfl (fun J hJ hR => ?_)
  refine z_aload_n hJ d_Mo_finds_0 0 rfl ?_
  refine z_get hJ d_Mo_finds_1 hc_Mo f_Mo_13 0 rfl rfl (by decide) ?_
  refine z_ldc hJ d_Mo_finds_4 c_Mo_51 ?_
  refine z_iload_n hJ d_Mo_finds_6 1 rfl ?_
  refine z_isub hJ d_Mo_finds_7 ?_
  refine z_c (y := 0) (by decide) ?_
  refine z_dup2 hJ d_Mo_finds_8 rfl rfl ?_
  refine z_iald hJ d_Mo_finds_9 2 (0) rfl rfl (by decide) (by decide) ?_
  refine z_iconst (v := 1) hJ d_Mo_finds_10 (by decide) ?_
  refine z_iadd hJ d_Mo_finds_11 ?_
  refine z_n (fun x_1 e_1 => ?_)
  refine z_iast (w' := mW g a (M.1, upd M.2.1 (0) x_1, M.2.2.1, M.2.2.2.1, M.2.2.2.2.1, M.2.2.2.2.2.1, M.2.2.2.2.2.2.1, M.2.2.2.2.2.2.2.1, M.2.2.2.2.2.2.2.2.1, M.2.2.2.2.2.2.2.2.2.1, M.2.2.2.2.2.2.2.2.2.2.1, M.2.2.2.2.2.2.2.2.2.2.2.1, M.2.2.2.2.2.2.2.2.2.2.2.2.1, M.2.2.2.2.2.2.2.2.2.2.2.2.2.1, M.2.2.2.2.2.2.2.2.2.2.2.2.2.2.1, M.2.2.2.2.2.2.2.2.2.2.2.2.2.2.2.1, M.2.2.2.2.2.2.2.2.2.2.2.2.2.2.2.2.1, M.2.2.2.2.2.2.2.2.2.2.2.2.2.2.2.2.2.1, M.2.2.2.2.2.2.2.2.2.2.2.2.2.2.2.2.2.2.1, M.2.2.2.2.2.2.2.2.2.2.2.2.2.2.2.2.2.2.2.1, M.2.2.2.2.2.2.2.2.2.2.2.2.2.2.2.2.2.2.2.2)) hJ d_Mo_finds_12 2 (0) rfl rfl (by decide) (by decide) rfl ?_
  refine z_iload_n hJ d_Mo_finds_13 1 rfl ?_
  subst e_1
  exact z_ri hR d_Mo_finds_14 rfl rfl
set_option maxRecDepth 100000 in
theorem m_Mo_finds_1 {g : Nat → Nat → Nat} {a : Nat → Nat} {M : MS}  : zM g y_Mo_finds b_Mo_finds 2 (some .int) 0 [.ref (a 0), .int (-1000000002)] (mW g a M) [.int (-1000000002)] (mW g a (M.1, q_tel M.2.1 1, M.2.2)) := by
  refine zMi (lv := [(0, .ref (a 0)), (1, .int (-1000000002))]) (by decide) (Nat.le_of_ble_eq_true rfl) rfl (fun J hJ hR => ?_)
  refine z_aload_n hJ d_Mo_finds_0 0 rfl ?_
  refine z_get hJ d_Mo_finds_1 hc_Mo f_Mo_13 0 rfl rfl (by decide) ?_
  refine z_ldc hJ d_Mo_finds_4 c_Mo_51 ?_
  refine z_iload_n hJ d_Mo_finds_6 1 rfl ?_
  refine z_isub hJ d_Mo_finds_7 ?_
  refine z_c (y := 1) (by decide) ?_
  refine z_dup2 hJ d_Mo_finds_8 rfl rfl ?_
  refine z_iald hJ d_Mo_finds_9 2 (1) rfl rfl (by decide) (by decide) ?_
  refine z_iconst (v := 1) hJ d_Mo_finds_10 (by decide) ?_
  refine z_iadd hJ d_Mo_finds_11 ?_
  refine z_n (fun x_1 e_1 => ?_)
  refine z_iast (w' := mW g a (M.1, upd M.2.1 (1) x_1, M.2.2.1, M.2.2.2.1, M.2.2.2.2.1, M.2.2.2.2.2.1, M.2.2.2.2.2.2.1, M.2.2.2.2.2.2.2.1, M.2.2.2.2.2.2.2.2.1, M.2.2.2.2.2.2.2.2.2.1, M.2.2.2.2.2.2.2.2.2.2.1, M.2.2.2.2.2.2.2.2.2.2.2.1, M.2.2.2.2.2.2.2.2.2.2.2.2.1, M.2.2.2.2.2.2.2.2.2.2.2.2.2.1, M.2.2.2.2.2.2.2.2.2.2.2.2.2.2.1, M.2.2.2.2.2.2.2.2.2.2.2.2.2.2.2.1, M.2.2.2.2.2.2.2.2.2.2.2.2.2.2.2.2.1, M.2.2.2.2.2.2.2.2.2.2.2.2.2.2.2.2.2.1, M.2.2.2.2.2.2.2.2.2.2.2.2.2.2.2.2.2.2.1, M.2.2.2.2.2.2.2.2.2.2.2.2.2.2.2.2.2.2.2.1, M.2.2.2.2.2.2.2.2.2.2.2.2.2.2.2.2.2.2.2.2)) hJ d_Mo_finds_12 2 (1) rfl rfl (by decide) (by decide) rfl ?_
  refine z_iload_n hJ d_Mo_finds_13 1 rfl ?_
  subst e_1
  exact z_ri hR d_Mo_finds_14 rfl rfl
set_option maxRecDepth 100000 in
theorem m_Mo_finds_2 {g : Nat → Nat → Nat} {a : Nat → Nat} {M : MS}  : zM g y_Mo_finds b_Mo_finds 2 (some .int) 0 [.ref (a 0), .int (-1000000003)] (mW g a M) [.int (-1000000003)] (mW g a (M.1, q_tel M.2.1 2, M.2.2)) := by
  refine zMi (lv := [(0, .ref (a 0)), (1, .int (-1000000003))]) (by decide) (Nat.le_of_ble_eq_true rfl) rfl (fun J hJ hR => ?_)
  refine z_aload_n hJ d_Mo_finds_0 0 rfl ?_
  refine z_get hJ d_Mo_finds_1 hc_Mo f_Mo_13 0 rfl rfl (by decide) ?_
  refine z_ldc hJ d_Mo_finds_4 c_Mo_51 ?_
  refine z_iload_n hJ d_Mo_finds_6 1 rfl ?_
  refine z_isub hJ d_Mo_finds_7 ?_
  refine z_c (y := 2) (by decide) ?_
  refine z_dup2 hJ d_Mo_finds_8 rfl rfl ?_
  refine z_iald hJ d_Mo_finds_9 2 (2) rfl rfl (by decide) (by decide) ?_
  refine z_iconst (v := 1) hJ d_Mo_finds_10 (by decide) ?_
  refine z_iadd hJ d_Mo_finds_11 ?_
  refine z_n (fun x_1 e_1 => ?_)
  refine z_iast (w' := mW g a (M.1, upd M.2.1 (2) x_1, M.2.2.1, M.2.2.2.1, M.2.2.2.2.1, M.2.2.2.2.2.1, M.2.2.2.2.2.2.1, M.2.2.2.2.2.2.2.1, M.2.2.2.2.2.2.2.2.1, M.2.2.2.2.2.2.2.2.2.1, M.2.2.2.2.2.2.2.2.2.2.1, M.2.2.2.2.2.2.2.2.2.2.2.1, M.2.2.2.2.2.2.2.2.2.2.2.2.1, M.2.2.2.2.2.2.2.2.2.2.2.2.2.1, M.2.2.2.2.2.2.2.2.2.2.2.2.2.2.1, M.2.2.2.2.2.2.2.2.2.2.2.2.2.2.2.1, M.2.2.2.2.2.2.2.2.2.2.2.2.2.2.2.2.1, M.2.2.2.2.2.2.2.2.2.2.2.2.2.2.2.2.2.1, M.2.2.2.2.2.2.2.2.2.2.2.2.2.2.2.2.2.2.1, M.2.2.2.2.2.2.2.2.2.2.2.2.2.2.2.2.2.2.2.1, M.2.2.2.2.2.2.2.2.2.2.2.2.2.2.2.2.2.2.2.2)) hJ d_Mo_finds_12 2 (2) rfl rfl (by decide) (by decide) rfl ?_
  refine z_iload_n hJ d_Mo_finds_13 1 rfl ?_
  subst e_1
  exact z_ri hR d_Mo_finds_14 rfl rfl
set_option maxRecDepth 100000 in
theorem m_Mo_finds_3 {g : Nat → Nat → Nat} {a : Nat → Nat} {M : MS}  : zM g y_Mo_finds b_Mo_finds 2 (some .int) 0 [.ref (a 0), .int (-1000000004)] (mW g a M) [.int (-1000000004)] (mW g a (M.1, q_tel M.2.1 3, M.2.2)) := by
  refine zMi (lv := [(0, .ref (a 0)), (1, .int (-1000000004))]) (by decide) (Nat.le_of_ble_eq_true rfl) rfl (fun J hJ hR => ?_)
  refine z_aload_n hJ d_Mo_finds_0 0 rfl ?_
  refine z_get hJ d_Mo_finds_1 hc_Mo f_Mo_13 0 rfl rfl (by decide) ?_
  refine z_ldc hJ d_Mo_finds_4 c_Mo_51 ?_
  refine z_iload_n hJ d_Mo_finds_6 1 rfl ?_
  refine z_isub hJ d_Mo_finds_7 ?_
  refine z_c (y := 3) (by decide) ?_
  refine z_dup2 hJ d_Mo_finds_8 rfl rfl ?_
  refine z_iald hJ d_Mo_finds_9 2 (3) rfl rfl (by decide) (by decide) ?_
  refine z_iconst (v := 1) hJ d_Mo_finds_10 (by decide) ?_
  refine z_iadd hJ d_Mo_finds_11 ?_
  refine z_n (fun x_1 e_1 => ?_)
  refine z_iast (w' := mW g a (M.1, upd M.2.1 (3) x_1, M.2.2.1, M.2.2.2.1, M.2.2.2.2.1, M.2.2.2.2.2.1, M.2.2.2.2.2.2.1, M.2.2.2.2.2.2.2.1, M.2.2.2.2.2.2.2.2.1, M.2.2.2.2.2.2.2.2.2.1, M.2.2.2.2.2.2.2.2.2.2.1, M.2.2.2.2.2.2.2.2.2.2.2.1, M.2.2.2.2.2.2.2.2.2.2.2.2.1, M.2.2.2.2.2.2.2.2.2.2.2.2.2.1, M.2.2.2.2.2.2.2.2.2.2.2.2.2.2.1, M.2.2.2.2.2.2.2.2.2.2.2.2.2.2.2.1, M.2.2.2.2.2.2.2.2.2.2.2.2.2.2.2.2.1, M.2.2.2.2.2.2.2.2.2.2.2.2.2.2.2.2.2.1, M.2.2.2.2.2.2.2.2.2.2.2.2.2.2.2.2.2.2.1, M.2.2.2.2.2.2.2.2.2.2.2.2.2.2.2.2.2.2.2.1, M.2.2.2.2.2.2.2.2.2.2.2.2.2.2.2.2.2.2.2.2)) hJ d_Mo_finds_12 2 (3) rfl rfl (by decide) (by decide) rfl ?_
  refine z_iload_n hJ d_Mo_finds_13 1 rfl ?_
  subst e_1
  exact z_ri hR d_Mo_finds_14 rfl rfl
set_option maxRecDepth 100000 in
theorem m_Mo_finds_4 {g : Nat → Nat → Nat} {a : Nat → Nat} {M : MS}  : zM g y_Mo_finds b_Mo_finds 2 (some .int) 0 [.ref (a 0), .int (-1000000005)] (mW g a M) [.int (-1000000005)] (mW g a (M.1, q_tel M.2.1 4, M.2.2)) := by
  refine zMi (lv := [(0, .ref (a 0)), (1, .int (-1000000005))]) (by decide) (Nat.le_of_ble_eq_true rfl) rfl (fun J hJ hR => ?_)
  refine z_aload_n hJ d_Mo_finds_0 0 rfl ?_
  refine z_get hJ d_Mo_finds_1 hc_Mo f_Mo_13 0 rfl rfl (by decide) ?_
  refine z_ldc hJ d_Mo_finds_4 c_Mo_51 ?_
  refine z_iload_n hJ d_Mo_finds_6 1 rfl ?_
  refine z_isub hJ d_Mo_finds_7 ?_
  refine z_c (y := 4) (by decide) ?_
  refine z_dup2 hJ d_Mo_finds_8 rfl rfl ?_
  refine z_iald hJ d_Mo_finds_9 2 (4) rfl rfl (by decide) (by decide) ?_
  refine z_iconst (v := 1) hJ d_Mo_finds_10 (by decide) ?_
  refine z_iadd hJ d_Mo_finds_11 ?_
  refine z_n (fun x_1 e_1 => ?_)
  refine z_iast (w' := mW g a (M.1, upd M.2.1 (4) x_1, M.2.2.1, M.2.2.2.1, M.2.2.2.2.1, M.2.2.2.2.2.1, M.2.2.2.2.2.2.1, M.2.2.2.2.2.2.2.1, M.2.2.2.2.2.2.2.2.1, M.2.2.2.2.2.2.2.2.2.1, M.2.2.2.2.2.2.2.2.2.2.1, M.2.2.2.2.2.2.2.2.2.2.2.1, M.2.2.2.2.2.2.2.2.2.2.2.2.1, M.2.2.2.2.2.2.2.2.2.2.2.2.2.1, M.2.2.2.2.2.2.2.2.2.2.2.2.2.2.1, M.2.2.2.2.2.2.2.2.2.2.2.2.2.2.2.1, M.2.2.2.2.2.2.2.2.2.2.2.2.2.2.2.2.1, M.2.2.2.2.2.2.2.2.2.2.2.2.2.2.2.2.2.1, M.2.2.2.2.2.2.2.2.2.2.2.2.2.2.2.2.2.2.1, M.2.2.2.2.2.2.2.2.2.2.2.2.2.2.2.2.2.2.2.1, M.2.2.2.2.2.2.2.2.2.2.2.2.2.2.2.2.2.2.2.2)) hJ d_Mo_finds_12 2 (4) rfl rfl (by decide) (by decide) rfl ?_
  refine z_iload_n hJ d_Mo_finds_13 1 rfl ?_
  subst e_1
  exact z_ri hR d_Mo_finds_14 rfl rfl
set_option maxRecDepth 100000 in
theorem m_Mo_finds_5 {g : Nat → Nat → Nat} {a : Nat → Nat} {M : MS}  : zM g y_Mo_finds b_Mo_finds 2 (some .int) 0 [.ref (a 0), .int (-1000000006)] (mW g a M) [.int (-1000000006)] (mW g a (M.1, q_tel M.2.1 5, M.2.2)) := by
  refine zMi (lv := [(0, .ref (a 0)), (1, .int (-1000000006))]) (by decide) (Nat.le_of_ble_eq_true rfl) rfl (fun J hJ hR => ?_)
  refine z_aload_n hJ d_Mo_finds_0 0 rfl ?_
  refine z_get hJ d_Mo_finds_1 hc_Mo f_Mo_13 0 rfl rfl (by decide) ?_
  refine z_ldc hJ d_Mo_finds_4 c_Mo_51 ?_
  refine z_iload_n hJ d_Mo_finds_6 1 rfl ?_
  refine z_isub hJ d_Mo_finds_7 ?_
  refine z_c (y := 5) (by decide) ?_
  refine z_dup2 hJ d_Mo_finds_8 rfl rfl ?_
  refine z_iald hJ d_Mo_finds_9 2 (5) rfl rfl (by decide) (by decide) ?_
  refine z_iconst (v := 1) hJ d_Mo_finds_10 (by decide) ?_
  refine z_iadd hJ d_Mo_finds_11 ?_
  refine z_n (fun x_1 e_1 => ?_)
  refine z_iast (w' := mW g a (M.1, upd M.2.1 (5) x_1, M.2.2.1, M.2.2.2.1, M.2.2.2.2.1, M.2.2.2.2.2.1, M.2.2.2.2.2.2.1, M.2.2.2.2.2.2.2.1, M.2.2.2.2.2.2.2.2.1, M.2.2.2.2.2.2.2.2.2.1, M.2.2.2.2.2.2.2.2.2.2.1, M.2.2.2.2.2.2.2.2.2.2.2.1, M.2.2.2.2.2.2.2.2.2.2.2.2.1, M.2.2.2.2.2.2.2.2.2.2.2.2.2.1, M.2.2.2.2.2.2.2.2.2.2.2.2.2.2.1, M.2.2.2.2.2.2.2.2.2.2.2.2.2.2.2.1, M.2.2.2.2.2.2.2.2.2.2.2.2.2.2.2.2.1, M.2.2.2.2.2.2.2.2.2.2.2.2.2.2.2.2.2.1, M.2.2.2.2.2.2.2.2.2.2.2.2.2.2.2.2.2.2.1, M.2.2.2.2.2.2.2.2.2.2.2.2.2.2.2.2.2.2.2.1, M.2.2.2.2.2.2.2.2.2.2.2.2.2.2.2.2.2.2.2.2)) hJ d_Mo_finds_12 2 (5) rfl rfl (by decide) (by decide) rfl ?_
  refine z_iload_n hJ d_Mo_finds_13 1 rfl ?_
  subst e_1
  exact z_ri hR d_Mo_finds_14 rfl rfl
set_option maxRecDepth 100000 in
theorem m_Mo_finds_6 {g : Nat → Nat → Nat} {a : Nat → Nat} {M : MS}  : zM g y_Mo_finds b_Mo_finds 2 (some .int) 0 [.ref (a 0), .int (-1000000007)] (mW g a M) [.int (-1000000007)] (mW g a (M.1, q_tel M.2.1 6, M.2.2)) := by
  refine zMi (lv := [(0, .ref (a 0)), (1, .int (-1000000007))]) (by decide) (Nat.le_of_ble_eq_true rfl) rfl (fun J hJ hR => ?_)
  refine z_aload_n hJ d_Mo_finds_0 0 rfl ?_
  refine z_get hJ d_Mo_finds_1 hc_Mo f_Mo_13 0 rfl rfl (by decide) ?_
  refine z_ldc hJ d_Mo_finds_4 c_Mo_51 ?_
  refine z_iload_n hJ d_Mo_finds_6 1 rfl ?_
  refine z_isub hJ d_Mo_finds_7 ?_
  refine z_c (y := 6) (by decide) ?_
  refine z_dup2 hJ d_Mo_finds_8 rfl rfl ?_
  refine z_iald hJ d_Mo_finds_9 2 (6) rfl rfl (by decide) (by decide) ?_
  refine z_iconst (v := 1) hJ d_Mo_finds_10 (by decide) ?_
  refine z_iadd hJ d_Mo_finds_11 ?_
  refine z_n (fun x_1 e_1 => ?_)
  refine z_iast (w' := mW g a (M.1, upd M.2.1 (6) x_1, M.2.2.1, M.2.2.2.1, M.2.2.2.2.1, M.2.2.2.2.2.1, M.2.2.2.2.2.2.1, M.2.2.2.2.2.2.2.1, M.2.2.2.2.2.2.2.2.1, M.2.2.2.2.2.2.2.2.2.1, M.2.2.2.2.2.2.2.2.2.2.1, M.2.2.2.2.2.2.2.2.2.2.2.1, M.2.2.2.2.2.2.2.2.2.2.2.2.1, M.2.2.2.2.2.2.2.2.2.2.2.2.2.1, M.2.2.2.2.2.2.2.2.2.2.2.2.2.2.1, M.2.2.2.2.2.2.2.2.2.2.2.2.2.2.2.1, M.2.2.2.2.2.2.2.2.2.2.2.2.2.2.2.2.1, M.2.2.2.2.2.2.2.2.2.2.2.2.2.2.2.2.2.1, M.2.2.2.2.2.2.2.2.2.2.2.2.2.2.2.2.2.2.1, M.2.2.2.2.2.2.2.2.2.2.2.2.2.2.2.2.2.2.2.1, M.2.2.2.2.2.2.2.2.2.2.2.2.2.2.2.2.2.2.2.2)) hJ d_Mo_finds_12 2 (6) rfl rfl (by decide) (by decide) rfl ?_
  refine z_iload_n hJ d_Mo_finds_13 1 rfl ?_
  subst e_1
  exact z_ri hR d_Mo_finds_14 rfl rfl
set_option maxRecDepth 100000 in
theorem m_Mo_size {g : Nat → Nat → Nat} {x : Int32}  : zM g y_Mo_size b_Mo_size 1 (some .int) 0 [.int x] ([]) [.int (q_size x)] ([]) := by
  refine zMi (lv := [(0, .int x)]) (by decide) (Nat.le_of_ble_eq_true rfl) rfl (fun J hJ hR => ?_)
  refine z_iload_n hJ d_Mo_size_0 0 rfl ?_
  refine z_if_ge hJ d_Mo_size_1 (fun c_1 => ?_) (fun c_1 => ?_)
  · skip
    refine z_iload_n hJ d_Mo_size_9 0 rfl ?_
    exact z_ri hR d_Mo_size_10 (by simp [q_size, c_1]) rfl
  · skip
    refine z_iload_n hJ d_Mo_size_4 0 rfl ?_
    refine z_ineg hJ d_Mo_size_5 ?_
    refine z_goto hJ d_Mo_size_6 ?_
    exact z_ri hR d_Mo_size_10 (by simp [q_size, c_1]) rfl
set_option maxRecDepth 100000 in
theorem m_Mo_bits {g : Nat → Nat → Nat} {s : Nat} (hs : s < 2 ^ 31) : zM g y_Mo_bits b_Mo_bits 3 (some .int) 0 [.int (nI s)] ([]) [.int (nI (q_bits s))] ([]) := by
  refine zMi (lv := [(0, .int (nI s))]) (by decide) (Nat.le_of_ble_eq_true rfl) rfl (fun J hJ hR => ?_)
  refine z_iconst (v := 0) hJ d_Mo_bits_0 (by decide) ?_
  refine z_istore_n (lv' := [(0, _), (1, _)]) hJ d_Mo_bits_1 (by decide) rfl ?_
  refine z_iconst (v := 0) hJ d_Mo_bits_2 (by decide) ?_
  refine z_istore_n (lv' := [(0, _), (1, _), (2, _)]) hJ d_Mo_bits_3 (by decide) rfl ?_
  have L4 : ∀ j : Nat, j ≤ 8 → J ([]) 4 [(0, .int (nI s)), (1, .int (nI (q_bt8 s j))), (2, .int (nI j))] [] := by
    refine zloop (8) (fun j hjN ih => ?_)
    refine z_iload_n hJ d_Mo_bits_4 2 rfl ?_
    refine z_bipush (v := 8) hJ d_Mo_bits_5 (by decide) ?_
    refine z_icmp_ge hJ d_Mo_bits_7 (fun c_7 => ?_) (fun c_7 => ?_)
    · skip
      have h_7 : 8 ≤ j := by
        have e := nI_leI (a := 8) (b := j) (by omega) (by omega)
        exact e.mp c_7
      obtain rfl : j = 8 := by omega
      refine z_iload_n hJ d_Mo_bits_24 1 rfl ?_
      exact z_ri hR d_Mo_bits_25 (by rw [q_bt8_bits]) rfl
    · skip
      have h_7 : ¬ (8 ≤ j) := by
        have e := nI_leI (a := 8) (b := j) (by omega) (by omega)
        exact fun q => c_7 (e.mpr q)
      refine z_iload_n hJ d_Mo_bits_10 1 rfl ?_
      refine z_iload_n hJ d_Mo_bits_11 0 rfl ?_
      refine z_iload_n hJ d_Mo_bits_12 2 rfl ?_
      refine z_ishr hJ d_Mo_bits_13 ?_
      refine z_iconst (v := 1) hJ d_Mo_bits_14 (by decide) ?_
      refine z_iand hJ d_Mo_bits_15 ?_
      refine z_c (zbit1 hs (by omega)) ?_
      refine z_iadd hJ d_Mo_bits_16 ?_
      refine z_c (y := nI (q_bt8 s (j + 1))) (nI_add _ _) ?_
      refine z_istore_n (lv' := [(0, _), (1, _), (2, _)]) hJ d_Mo_bits_17 (by decide) rfl ?_
      refine z_iinc (v := nI (j + 1)) (lv' := [(0, _), (1, _), (2, _)]) hJ d_Mo_bits_18 2 rfl (zinc _) (by decide) rfl ?_
      refine z_goto hJ d_Mo_bits_21 ?_
      exact ih (by omega)
  exact L4 0 (Nat.zero_le _)
set_option maxRecDepth 100000 in
theorem m_Mo_isUnder {g : Nat → Nat → Nat} {k w : Int32}  : zM g y_Mo_isUnder b_Mo_isUnder 2 (some .boolean) 0 [.int k, .int w] ([]) [.int (zB (q_un k w))] ([]) := by
  refine zMz (lv := [(0, .int k), (1, .int w)]) (by decide) (Nat.le_of_ble_eq_true rfl) rfl (fun J hJ hR => ?_)
  refine z_iload_n hJ d_Mo_isUnder_0 1 rfl ?_
  refine z_if_eq hJ d_Mo_isUnder_1 (fun c_1 => ?_) (fun c_1 => ?_)
  · skip
    refine z_iconst (v := 1) hJ d_Mo_isUnder_29 (by decide) ?_
    refine z_goto hJ d_Mo_isUnder_30 ?_
    exact z_ri hR d_Mo_isUnder_34 (by clear hR hJ; simp_all [q_un]; try rfl) rfl
  · skip
    refine z_iload_n hJ d_Mo_isUnder_4 1 rfl ?_
    refine z_iload_n hJ d_Mo_isUnder_5 0 rfl ?_
    refine z_icmp_eq hJ d_Mo_isUnder_6 (fun c_6 => ?_) (fun c_6 => ?_)
    · skip
      refine z_iconst (v := 1) hJ d_Mo_isUnder_29 (by decide) ?_
      refine z_goto hJ d_Mo_isUnder_30 ?_
      exact z_ri hR d_Mo_isUnder_34 (by clear hR hJ; simp_all [q_un]; try rfl) rfl
    · skip
      refine z_iload_n hJ d_Mo_isUnder_9 1 rfl ?_
      refine z_iconst (v := 1) hJ d_Mo_isUnder_10 (by decide) ?_
      refine z_icmp_ne hJ d_Mo_isUnder_11 (fun c_11 => ?_) (fun c_11 => ?_)
      · skip
        refine z_iload_n hJ d_Mo_isUnder_19 1 rfl ?_
        refine z_iconst (v := 3) hJ d_Mo_isUnder_20 (by decide) ?_
        refine z_icmp_ne hJ d_Mo_isUnder_21 (fun c_21 => ?_) (fun c_21 => ?_)
        · skip
          refine z_iconst (v := 0) hJ d_Mo_isUnder_33 (by decide) ?_
          exact z_ri hR d_Mo_isUnder_34 (by clear hR hJ; simp_all [q_un]; try rfl) rfl
        · skip
          refine z_iload_n hJ d_Mo_isUnder_24 0 rfl ?_
          refine z_iconst (v := 5) hJ d_Mo_isUnder_25 (by decide) ?_
          refine z_icmp_ne hJ d_Mo_isUnder_26 (fun c_26 => ?_) (fun c_26 => ?_)
          · skip
            refine z_iconst (v := 0) hJ d_Mo_isUnder_33 (by decide) ?_
            exact z_ri hR d_Mo_isUnder_34 (by clear hR hJ; simp_all [q_un]; try rfl) rfl
          · skip
            refine z_iconst (v := 1) hJ d_Mo_isUnder_29 (by decide) ?_
            refine z_goto hJ d_Mo_isUnder_30 ?_
            exact z_ri hR d_Mo_isUnder_34 (by clear hR hJ; simp_all [q_un]; try rfl) rfl
      · skip
        refine z_iload_n hJ d_Mo_isUnder_14 0 rfl ?_
        refine z_iconst (v := 4) hJ d_Mo_isUnder_15 (by decide) ?_
        refine z_icmp_eq hJ d_Mo_isUnder_16 (fun c_16 => ?_) (fun c_16 => ?_)
        · skip
          refine z_iconst (v := 1) hJ d_Mo_isUnder_29 (by decide) ?_
          refine z_goto hJ d_Mo_isUnder_30 ?_
          exact z_ri hR d_Mo_isUnder_34 (by clear hR hJ; simp_all [q_un]; try rfl) rfl
        · skip
          refine z_iload_n hJ d_Mo_isUnder_19 1 rfl ?_
          refine z_iconst (v := 3) hJ d_Mo_isUnder_20 (by decide) ?_
          refine z_icmp_ne hJ d_Mo_isUnder_21 (fun c_21 => ?_) (fun c_21 => ?_)
          · skip
            refine z_iconst (v := 0) hJ d_Mo_isUnder_33 (by decide) ?_
            exact z_ri hR d_Mo_isUnder_34 (by clear hR hJ; simp_all [q_un]; try rfl) rfl
          · skip
            refine z_iload_n hJ d_Mo_isUnder_24 0 rfl ?_
            refine z_iconst (v := 5) hJ d_Mo_isUnder_25 (by decide) ?_
            refine z_icmp_ne hJ d_Mo_isUnder_26 (fun c_26 => ?_) (fun c_26 => ?_)
            · skip
              refine z_iconst (v := 0) hJ d_Mo_isUnder_33 (by decide) ?_
              exact z_ri hR d_Mo_isUnder_34 (by clear hR hJ; simp_all [q_un]; try rfl) rfl
            · skip
              refine z_iconst (v := 1) hJ d_Mo_isUnder_29 (by decide) ?_
              refine z_goto hJ d_Mo_isUnder_30 ?_
              exact z_ri hR d_Mo_isUnder_34 (by clear hR hJ; simp_all [q_un]; try rfl) rfl
set_option maxRecDepth 100000 in
theorem m_Mo_its {g : Nat → Nat → Nat} {a : Nat → Nat} {M : MS} {p w : Nat} (hp : p < 7) (hw : w < 5) : zM g y_Mo_its b_Mo_its 3 (some .int) 0 [.ref (a 0), .int (nI p), .int (nI w)] (mW g a M) [.int (M.1 (3 + 5 * p + w))] (mW g a M) := by
  refine zMi (lv := [(0, .ref (a 0)), (1, .int (nI p)), (2, .int (nI w))]) (by decide) (Nat.le_of_ble_eq_true rfl) rfl (fun J hJ hR => ?_)
  refine z_aload_n hJ d_Mo_its_0 0 rfl ?_
  refine z_get hJ d_Mo_its_1 hc_Mo f_Mo_7 0 rfl rfl (by decide) ?_
  refine z_iconst (v := 3) hJ d_Mo_its_4 (by decide) ?_
  refine z_iconst (v := 5) hJ d_Mo_its_5 (by decide) ?_
  refine z_iload_n hJ d_Mo_its_6 1 rfl ?_
  refine z_imul hJ d_Mo_its_7 ?_
  refine z_iadd hJ d_Mo_its_8 ?_
  refine z_iload_n hJ d_Mo_its_9 2 rfl ?_
  refine z_iadd hJ d_Mo_its_10 ?_
  refine z_c (zrow hw) ?_
  refine z_iald hJ d_Mo_its_11 1 ((3 + 5 * p + w)) rfl rfl (by omega) (by decide) ?_
  exact z_ri hR d_Mo_its_12 rfl rfl
set_option maxRecDepth 100000 in
theorem m_Mo_puts {g : Nat → Nat → Nat} {a : Nat → Nat} {M : MS} {p w : Nat} {v : Int32} (hp : p < 7) (hw : w < 5) : zM g y_Mo_puts b_Mo_puts 4 none 0 [.ref (a 0), .int (nI p), .int (nI w), .int v] (mW g a M) [] (mW g a (upd M.1 (3 + 5 * p + w) v, M.2)) := by
  refine zMv (lv := [(0, .ref (a 0)), (1, .int (nI p)), (2, .int (nI w)), (3, .int v)]) (by decide) (Nat.le_of_ble_eq_true rfl) rfl (fun J hJ hR => ?_)
  refine z_aload_n hJ d_Mo_puts_0 0 rfl ?_
  refine z_get hJ d_Mo_puts_1 hc_Mo f_Mo_7 0 rfl rfl (by decide) ?_
  refine z_iconst (v := 3) hJ d_Mo_puts_4 (by decide) ?_
  refine z_iconst (v := 5) hJ d_Mo_puts_5 (by decide) ?_
  refine z_iload_n hJ d_Mo_puts_6 1 rfl ?_
  refine z_imul hJ d_Mo_puts_7 ?_
  refine z_iadd hJ d_Mo_puts_8 ?_
  refine z_iload_n hJ d_Mo_puts_9 2 rfl ?_
  refine z_iadd hJ d_Mo_puts_10 ?_
  refine z_c (zrow hw) ?_
  refine z_iload_n hJ d_Mo_puts_11 3 rfl ?_
  refine z_n (fun x_1 e_1 => ?_)
  refine z_iast (w' := mW g a (upd M.1 ((3 + 5 * p + w)) x_1, M.2.1, M.2.2.1, M.2.2.2.1, M.2.2.2.2.1, M.2.2.2.2.2.1, M.2.2.2.2.2.2.1, M.2.2.2.2.2.2.2.1, M.2.2.2.2.2.2.2.2.1, M.2.2.2.2.2.2.2.2.2.1, M.2.2.2.2.2.2.2.2.2.2.1, M.2.2.2.2.2.2.2.2.2.2.2.1, M.2.2.2.2.2.2.2.2.2.2.2.2.1, M.2.2.2.2.2.2.2.2.2.2.2.2.2.1, M.2.2.2.2.2.2.2.2.2.2.2.2.2.2.1, M.2.2.2.2.2.2.2.2.2.2.2.2.2.2.2.1, M.2.2.2.2.2.2.2.2.2.2.2.2.2.2.2.2.1, M.2.2.2.2.2.2.2.2.2.2.2.2.2.2.2.2.2.1, M.2.2.2.2.2.2.2.2.2.2.2.2.2.2.2.2.2.2.1, M.2.2.2.2.2.2.2.2.2.2.2.2.2.2.2.2.2.2.2.1, M.2.2.2.2.2.2.2.2.2.2.2.2.2.2.2.2.2.2.2.2)) hJ d_Mo_puts_12 1 ((3 + 5 * p + w)) rfl rfl (by omega) (by decide) rfl ?_
  subst e_1
  exact z_rv hR d_Mo_puts_13 rfl
set_option maxRecDepth 100000 in
theorem m_Mo_asks {g : Nat → Nat → Nat} {a : Nat → Nat} {M : MS} {t w : Nat} (ht : t < 8) (hw : w < 4) : zM g y_Mo_asks b_Mo_asks 3 (some .int) 0 [.ref (a 0), .int (nI t), .int (nI w)] (mW g a M) [.int (M.1 (38 + 4 * t + w))] (mW g a M) := by
  refine zMi (lv := [(0, .ref (a 0)), (1, .int (nI t)), (2, .int (nI w))]) (by decide) (Nat.le_of_ble_eq_true rfl) rfl (fun J hJ hR => ?_)
  refine z_aload_n hJ d_Mo_asks_0 0 rfl ?_
  refine z_get hJ d_Mo_asks_1 hc_Mo f_Mo_7 0 rfl rfl (by decide) ?_
  refine z_bipush (v := 38) hJ d_Mo_asks_4 (by decide) ?_
  refine z_iconst (v := 4) hJ d_Mo_asks_6 (by decide) ?_
  refine z_iload_n hJ d_Mo_asks_7 1 rfl ?_
  refine z_imul hJ d_Mo_asks_8 ?_
  refine z_iadd hJ d_Mo_asks_9 ?_
  refine z_iload_n hJ d_Mo_asks_10 2 rfl ?_
  refine z_iadd hJ d_Mo_asks_11 ?_
  refine z_c ztsk ?_
  refine z_iald hJ d_Mo_asks_12 1 ((38 + 4 * t + w)) rfl rfl (by omega) (by decide) ?_
  exact z_ri hR d_Mo_asks_13 rfl rfl
theorem m_Mo_its0 {g : Nat → Nat → Nat} {a : Nat → Nat} {M : MS} {P : RS} {p : Nat} (hR0 : zRo P M.1) (hp : p < 7) : zM g y_Mo_its b_Mo_its 3 (some .int) 0 [.ref (a 0), .int (nI p), .int 0] (mW g a M) [.int (rk P p)] (mW g a M) := by
  have h := m_Mo_its (g := g) (a := a) (M := M) (w := 0) hp (by decide)
  rw [(hR0.2.2.2.1 p hp).1] at h
  exact h
theorem m_Mo_its1 {g : Nat → Nat → Nat} {a : Nat → Nat} {M : MS} {P : RS} {p : Nat} (hR0 : zRo P M.1) (hp : p < 7) : zM g y_Mo_its b_Mo_its 3 (some .int) 0 [.ref (a 0), .int (nI p), .int 1] (mW g a M) [.int (rm P p)] (mW g a M) := by
  have h := m_Mo_its (g := g) (a := a) (M := M) (w := 1) hp (by decide)
  rw [(hR0.2.2.2.1 p hp).2.1] at h
  exact h
theorem m_Mo_its2 {g : Nat → Nat → Nat} {a : Nat → Nat} {M : MS} {P : RS} {p : Nat} (hR0 : zRo P M.1) (hp : p < 7) : zM g y_Mo_its b_Mo_its 3 (some .int) 0 [.ref (a 0), .int (nI p), .int 2] (mW g a M) [.int (rg P p)] (mW g a M) := by
  have h := m_Mo_its (g := g) (a := a) (M := M) (w := 2) hp (by decide)
  rw [(hR0.2.2.2.1 p hp).2.2.1] at h
  exact h
theorem m_Mo_its3 {g : Nat → Nat → Nat} {a : Nat → Nat} {M : MS} {P : RS} {p : Nat} (hR0 : zRo P M.1) (hp : p < 7) : zM g y_Mo_its b_Mo_its 3 (some .int) 0 [.ref (a 0), .int (nI p), .int 3] (mW g a M) [.int (rs P p)] (mW g a M) := by
  have h := m_Mo_its (g := g) (a := a) (M := M) (w := 3) hp (by decide)
  rw [(hR0.2.2.2.1 p hp).2.2.2.1] at h
  exact h
theorem m_Mo_its4 {g : Nat → Nat → Nat} {a : Nat → Nat} {M : MS} {P : RS} {p : Nat} (hR0 : zRo P M.1) (hp : p < 7) : zM g y_Mo_its b_Mo_its 3 (some .int) 0 [.ref (a 0), .int (nI p), .int 4] (mW g a M) [.int (zB (P.2.2.2.1.testBit p))] (mW g a M) := by
  have h := m_Mo_its (g := g) (a := a) (M := M) (w := 4) hp (by decide)
  rw [(hR0.2.2.2.1 p hp).2.2.2.2] at h
  exact h
theorem m_Mo_asks0 {g : Nat → Nat → Nat} {a : Nat → Nat} {M : MS} {P : RS} {t : Nat} (hR0 : zRo P M.1) (ht : t < 8) : zM g y_Mo_asks b_Mo_asks 3 (some .int) 0 [.ref (a 0), .int (nI t), .int 0] (mW g a M) [.int (rso P t)] (mW g a M) := by
  have h := m_Mo_asks (g := g) (a := a) (M := M) (w := 0) ht (by decide)
  rw [(hR0.2.2.2.2 t ht).1] at h
  exact h
theorem m_Mo_asks1 {g : Nat → Nat → Nat} {a : Nat → Nat} {M : MS} {P : RS} {t : Nat} (hR0 : zRo P M.1) (ht : t < 8) : zM g y_Mo_asks b_Mo_asks 3 (some .int) 0 [.ref (a 0), .int (nI t), .int 1] (mW g a M) [.int (rtm P t)] (mW g a M) := by
  have h := m_Mo_asks (g := g) (a := a) (M := M) (w := 1) ht (by decide)
  rw [(hR0.2.2.2.2 t ht).2.1] at h
  exact h
theorem m_Mo_asks2 {g : Nat → Nat → Nat} {a : Nat → Nat} {M : MS} {P : RS} {t : Nat} (hR0 : zRo P M.1) (ht : t < 8) : zM g y_Mo_asks b_Mo_asks 3 (some .int) 0 [.ref (a 0), .int (nI t), .int 2] (mW g a M) [.int (rne P t)] (mW g a M) := by
  have h := m_Mo_asks (g := g) (a := a) (M := M) (w := 2) ht (by decide)
  rw [(hR0.2.2.2.2 t ht).2.2.1] at h
  exact h
theorem m_Mo_asks3 {g : Nat → Nat → Nat} {a : Nat → Nat} {M : MS} {P : RS} {t : Nat} (hR0 : zRo P M.1) (ht : t < 8) : zM g y_Mo_asks b_Mo_asks 3 (some .int) 0 [.ref (a 0), .int (nI t), .int 3] (mW g a M) [.int (rpa P t)] (mW g a M) := by
  have h := m_Mo_asks (g := g) (a := a) (M := M) (w := 3) ht (by decide)
  rw [(hR0.2.2.2.2 t ht).2.2.2] at h
  exact h
set_option maxRecDepth 100000 in
theorem m_Mo_isOne {g : Nat → Nat → Nat} {a : Nat → Nat} {M : MS} {P : RS} {i : Int32} (hR0 : zRo P M.1) : zM g y_Mo_isOne b_Mo_isOne 2 (some .boolean) 1 [.ref (a 0), .int i] (mW g a M) [.int (zB (q_ix i P.2.1))] (mW g a M) := by
  refine zMz (lv := [(0, .ref (a 0)), (1, .int i)]) (by decide) (Nat.le_of_ble_eq_true rfl) rfl (fun J hJ hR => ?_)
  refine z_iload_n hJ d_Mo_isOne_0 1 rfl ?_
  refine z_iconst (v := 0) hJ d_Mo_isOne_1 (by decide) ?_
  refine z_aload_n hJ d_Mo_isOne_2 0 rfl ?_
  refine z_get hJ d_Mo_isOne_3 hc_Mo f_Mo_7 0 rfl rfl (by decide) ?_
  refine z_iconst (v := 1) hJ d_Mo_isOne_6 (by decide) ?_
  refine z_iald hJ d_Mo_isOne_7 1 (1) rfl rfl (by decide) (by decide) ?_
  refine z_c (y := nI P.2.1) hR0.2.1 ?_
  refine z_iconst (v := 1) hJ d_Mo_isOne_8 (by decide) ?_
  refine z_isub hJ d_Mo_isOne_9 ?_
  refine z_callSi hJ m_Mo_in k_Mo_52 zL.nil d_Mo_isOne_10 rfl rfl (Nat.le_of_ble_eq_true rfl) ⟨by decide, by decide⟩ ?_
  exact z_ri hR d_Mo_isOne_13 rfl rfl
set_option maxRecDepth 100000 in
theorem m_Mo_isTask {g : Nat → Nat → Nat} {a : Nat → Nat} {M : MS} {P : RS} {i : Int32} (hR0 : zRo P M.1) : zM g y_Mo_isTask b_Mo_isTask 2 (some .boolean) 1 [.ref (a 0), .int i] (mW g a M) [.int (zB (q_ix i P.2.2.1))] (mW g a M) := by
  refine zMz (lv := [(0, .ref (a 0)), (1, .int i)]) (by decide) (Nat.le_of_ble_eq_true rfl) rfl (fun J hJ hR => ?_)
  refine z_iload_n hJ d_Mo_isTask_0 1 rfl ?_
  refine z_iconst (v := 0) hJ d_Mo_isTask_1 (by decide) ?_
  refine z_aload_n hJ d_Mo_isTask_2 0 rfl ?_
  refine z_get hJ d_Mo_isTask_3 hc_Mo f_Mo_7 0 rfl rfl (by decide) ?_
  refine z_iconst (v := 2) hJ d_Mo_isTask_6 (by decide) ?_
  refine z_iald hJ d_Mo_isTask_7 1 (2) rfl rfl (by decide) (by decide) ?_
  refine z_c (y := nI P.2.2.1) hR0.2.2.1 ?_
  refine z_iconst (v := 1) hJ d_Mo_isTask_8 (by decide) ?_
  refine z_isub hJ d_Mo_isTask_9 ?_
  refine z_callSi hJ m_Mo_in k_Mo_52 zL.nil d_Mo_isTask_10 rfl rfl (Nat.le_of_ble_eq_true rfl) ⟨by decide, by decide⟩ ?_
  exact z_ri hR d_Mo_isTask_13 rfl rfl
set_option maxRecDepth 100000 in
theorem m_Mo_paceOf {g : Nat → Nat → Nat} {a : Nat → Nat} {M : MS} {P : RS} {p : Nat} (hR0 : zRo P M.1) (hp : p < 7) : zM g y_Mo_paceOf b_Mo_paceOf 3 (some .int) 1 [.ref (a 0), .int (nI p)] (mW g a M) [.int (q_pace (rk P p))] (mW g a M) := by
  refine zMi (lv := [(0, .ref (a 0)), (1, .int (nI p))]) (by decide) (Nat.le_of_ble_eq_true rfl) rfl (fun J hJ hR => ?_)
  refine z_aload_n hJ d_Mo_paceOf_0 0 rfl ?_
  refine z_iload_n hJ d_Mo_paceOf_1 1 rfl ?_
  refine z_iconst (v := 0) hJ d_Mo_paceOf_2 (by decide) ?_
  refine z_callVi hJ (m_Mo_its0 hR0 (by omega)) k_Mo_76 zL.id d_Mo_paceOf_3 hc_Mo 0 rfl rfl rfl (Nat.le_of_ble_eq_true rfl) ⟨by decide, by decide⟩ ?_
  refine z_istore_n (lv' := [(0, _), (1, _), (2, _)]) hJ d_Mo_paceOf_6 (by decide) rfl ?_
  refine z_iload_n hJ d_Mo_paceOf_7 2 rfl ?_
  refine z_iconst (v := 1) hJ d_Mo_paceOf_8 (by decide) ?_
  refine z_icmp_ne hJ d_Mo_paceOf_9 (fun c_9 => ?_) (fun c_9 => ?_)
  · skip
    refine z_iload_n hJ d_Mo_paceOf_16 2 rfl ?_
    refine z_iconst (v := 4) hJ d_Mo_paceOf_17 (by decide) ?_
    refine z_icmp_ne hJ d_Mo_paceOf_18 (fun c_18 => ?_) (fun c_18 => ?_)
    · skip
      refine z_iconst (v := 1) hJ d_Mo_paceOf_26 (by decide) ?_
      exact z_ri hR d_Mo_paceOf_27 (by simp [q_pace, c_9, c_18]) rfl
    · skip
      refine z_bipush (v := 6) hJ d_Mo_paceOf_21 (by decide) ?_
      refine z_goto hJ d_Mo_paceOf_23 ?_
      exact z_ri hR d_Mo_paceOf_27 (by simp [q_pace, c_9, c_18]) rfl
  · skip
    refine z_iconst (v := 3) hJ d_Mo_paceOf_12 (by decide) ?_
    refine z_goto hJ d_Mo_paceOf_13 ?_
    exact z_ri hR d_Mo_paceOf_27 (by simp [q_pace, c_9]) rfl
set_option maxRecDepth 100000 in
theorem m_Mo_isUp {g : Nat → Nat → Nat} {a : Nat → Nat} {M : MS} {P : RS} {p : Nat} (hR0 : zRo P M.1) (hP : zPi P) (hG : zRg P) (ha : M.2.2.1 < 2 ^ 31) (hp : p < P.2.1) : zM g y_Mo_isUp b_Mo_isUp 2 (some .boolean) 1 [.ref (a 0), .int (nI p)] (mW g a M) [.int (zB ((M.2.2.1 &&& q_awk P).testBit p))] (mW g a M) := by
  have hj7 := hP.1
  have hj8 := hP.2.1
  refine zMz (lv := [(0, .ref (a 0)), (1, .int (nI p))]) (by decide) (Nat.le_of_ble_eq_true rfl) rfl (fun J hJ hR => ?_)
  refine z_aload_n hJ d_Mo_isUp_0 0 rfl ?_
  refine z_get hJ d_Mo_isUp_1 hc_Mo f_Mo_16 0 rfl rfl (by decide) ?_
  refine z_iload_n hJ d_Mo_isUp_4 1 rfl ?_
  refine z_callSi hJ (m_Mo_has ha (by omega)) k_Mo_80 zL.nil d_Mo_isUp_5 rfl rfl (Nat.le_of_ble_eq_true rfl) ⟨by decide, by decide⟩ ?_
  refine zb_eq hJ d_Mo_isUp_8 (fun c_8 => ?_) (fun c_8 => ?_)
  · skip
    refine z_iconst (v := 0) hJ d_Mo_isUp_24 (by decide) ?_
    exact z_ri hR d_Mo_isUp_25 (by rw [Nat.testBit_and, q_awk_tb hP.1]; simp [hp, c_8]; try rfl) rfl
  · skip
    refine z_aload_n hJ d_Mo_isUp_11 0 rfl ?_
    refine z_iload_n hJ d_Mo_isUp_12 1 rfl ?_
    refine z_iconst (v := 4) hJ d_Mo_isUp_13 (by decide) ?_
    refine z_callVi hJ (m_Mo_its4 hR0 (by omega)) k_Mo_76 zL.id d_Mo_isUp_14 hc_Mo 0 rfl rfl rfl (Nat.le_of_ble_eq_true rfl) ⟨by decide, by decide⟩ ?_
    refine zb_ne hJ d_Mo_isUp_17 (fun c_17 => ?_) (fun c_17 => ?_)
    · skip
      refine z_iconst (v := 0) hJ d_Mo_isUp_24 (by decide) ?_
      exact z_ri hR d_Mo_isUp_25 (by rw [Nat.testBit_and, q_awk_tb hP.1]; simp [hp, c_8, c_17]; try rfl) rfl
    · skip
      refine z_iconst (v := 1) hJ d_Mo_isUp_20 (by decide) ?_
      refine z_goto hJ d_Mo_isUp_21 ?_
      exact z_ri hR d_Mo_isUp_25 (by rw [Nat.testBit_and, q_awk_tb hP.1]; simp [hp, c_8, c_17]; try rfl) rfl
set_option maxRecDepth 100000 in
theorem m_Mo_isNear {g : Nat → Nat → Nat} {a : Nat → Nat} {M : MS} {P : RS} {p : Nat} {w : Int32} (hR0 : zRo P M.1) (hP : zPi P) (hG : zRg P) (ha : M.2.2.1 < 2 ^ 31) (hp : p < P.2.1) : zM g y_Mo_isNear b_Mo_isNear 5 (some .boolean) 2 [.ref (a 0), .int (nI p), .int w] (mW g a M) [.int (zB (q_near P (M.2.2.1 &&& q_awk P) p w P.2.1))] (mW g a M) := by
  have hj7 := hP.1
  have hj8 := hP.2.1
  refine zMz (lv := [(0, .ref (a 0)), (1, .int (nI p)), (2, .int w)]) (by decide) (Nat.le_of_ble_eq_true rfl) rfl (fun J hJ hR => ?_)
  refine z_iconst (v := 0) hJ d_Mo_isNear_0 (by decide) ?_
  refine z_istore_n (lv' := [(0, _), (1, _), (2, _), (3, _)]) hJ d_Mo_isNear_1 (by decide) rfl ?_
  refine z_iconst (v := 0) hJ d_Mo_isNear_2 (by decide) ?_
  refine z_istore (lv' := [(0, _), (1, _), (2, _), (3, _), (4, _)]) hJ d_Mo_isNear_3 (by decide) rfl ?_
  have L5 : ∀ j : Nat, j ≤ P.2.1 → J (mW g a M) 5 [(0, .ref (a 0)), (1, .int (nI p)), (2, .int w), (3, .int (zB (q_near P (M.2.2.1 &&& q_awk P) p w j))), (4, .int (nI j))] [] := by
    refine zloop (P.2.1) (fun j hjN ih => ?_)
    refine z_iload hJ d_Mo_isNear_5 4 rfl ?_
    refine z_aload_n hJ d_Mo_isNear_7 0 rfl ?_
    refine z_get hJ d_Mo_isNear_8 hc_Mo f_Mo_7 0 rfl rfl (by decide) ?_
    refine z_iconst (v := 1) hJ d_Mo_isNear_11 (by decide) ?_
    refine z_iald hJ d_Mo_isNear_12 1 (1) rfl rfl (by decide) (by decide) ?_
    refine z_c (y := nI P.2.1) hR0.2.1 ?_
    refine z_icmp_ge hJ d_Mo_isNear_13 (fun c_13 => ?_) (fun c_13 => ?_)
    · skip
      have h_13 : P.2.1 ≤ j := by
        have e := nI_leI (a := P.2.1) (b := j) (by omega) (by omega)
        exact e.mp c_13
      obtain rfl : j = P.2.1 := by omega
      refine z_iload_n hJ d_Mo_isNear_82 3 rfl ?_
      exact z_ri hR d_Mo_isNear_83 rfl rfl
    · skip
      have h_13 : ¬ (P.2.1 ≤ j) := by
        have e := nI_leI (a := P.2.1) (b := j) (by omega) (by omega)
        exact fun q => c_13 (e.mpr q)
      obtain ⟨kc, hkc, ek⟩ := (hG.2.2.1 j (by omega)).1
      obtain ⟨x1, hx1, ex1⟩ := (hG.2.2.1 p hp).2.1
      obtain ⟨x2, hx2, ex2⟩ := (hG.2.2.1 j (by omega)).2.1
      refine z_iload_n hJ d_Mo_isNear_16 3 rfl ?_
      refine zb_ne hJ d_Mo_isNear_17 (fun c_17 => ?_) (fun c_17 => ?_)
      · skip
        refine z_iconst (v := 1) hJ d_Mo_isNear_70 (by decide) ?_
        refine z_goto hJ d_Mo_isNear_71 ?_
        refine z_istore_n (lv' := [(0, _), (1, _), (2, _), (3, _), (4, _)]) hJ d_Mo_isNear_75 (by decide) rfl ?_
        refine z_iinc (v := nI (j + 1)) (lv' := [(0, _), (1, _), (2, _), (3, _), (4, _)]) hJ d_Mo_isNear_76 4 rfl (zinc _) (by decide) rfl ?_
        refine z_goto hJ d_Mo_isNear_79 ?_
        have e := ih (by omega)
        refine z_lv ?_ e
        rw [show q_near P (M.2.2.1 &&& q_awk P) p w (j + 1) = true from ?_]
        · rfl
        · simp [q_near, q_nc, c_13, c_17]
      · skip
        refine z_iload hJ d_Mo_isNear_20 4 rfl ?_
        refine z_iload_n hJ d_Mo_isNear_22 1 rfl ?_
        refine z_icmp_eq hJ d_Mo_isNear_23 (fun c_23 => ?_) (fun c_23 => ?_)
        · skip
          have h_23 : j = p := by
            have e := nI_eq (a := j) (b := p) (by omega) (by omega)
            exact e.mp c_23
          refine z_iconst (v := 0) hJ d_Mo_isNear_74 (by decide) ?_
          refine z_istore_n (lv' := [(0, _), (1, _), (2, _), (3, _), (4, _)]) hJ d_Mo_isNear_75 (by decide) rfl ?_
          refine z_iinc (v := nI (j + 1)) (lv' := [(0, _), (1, _), (2, _), (3, _), (4, _)]) hJ d_Mo_isNear_76 4 rfl (zinc _) (by decide) rfl ?_
          refine z_goto hJ d_Mo_isNear_79 ?_
          have e := ih (by omega)
          refine z_lv ?_ e
          rw [show q_near P (M.2.2.1 &&& q_awk P) p w (j + 1) = false from ?_]
          · rfl
          · rw [q_near, c_17, q_nc, decide_eq_false (show ¬ ¬ j = p from fun q => q h_23)]; rfl
        · skip
          have h_23 : ¬ (j = p) := by
            have e := nI_eq (a := j) (b := p) (by omega) (by omega)
            exact fun q => c_23 (e.mpr q)
          refine z_aload_n hJ d_Mo_isNear_26 0 rfl ?_
          refine z_iload hJ d_Mo_isNear_27 4 rfl ?_
          refine z_callVi hJ (m_Mo_isUp hR0 hP hG ha (by omega)) k_Mo_84 zL.id d_Mo_isNear_29 hc_Mo 0 rfl rfl rfl (Nat.le_of_ble_eq_true rfl) ⟨by decide, by decide⟩ ?_
          refine zb_eq hJ d_Mo_isNear_32 (fun c_32 => ?_) (fun c_32 => ?_)
          · skip
            refine z_iconst (v := 0) hJ d_Mo_isNear_74 (by decide) ?_
            refine z_istore_n (lv' := [(0, _), (1, _), (2, _), (3, _), (4, _)]) hJ d_Mo_isNear_75 (by decide) rfl ?_
            refine z_iinc (v := nI (j + 1)) (lv' := [(0, _), (1, _), (2, _), (3, _), (4, _)]) hJ d_Mo_isNear_76 4 rfl (zinc _) (by decide) rfl ?_
            refine z_goto hJ d_Mo_isNear_79 ?_
            have e := ih (by omega)
            refine z_lv ?_ e
            rw [show q_near P (M.2.2.1 &&& q_awk P) p w (j + 1) = false from ?_]
            · rfl
            · simp [q_near, q_nc, c_13, c_17, c_23, c_32, h_23]
          · skip
            refine z_aload_n hJ d_Mo_isNear_35 0 rfl ?_
            refine z_iload hJ d_Mo_isNear_36 4 rfl ?_
            refine z_iconst (v := 0) hJ d_Mo_isNear_38 (by decide) ?_
            refine z_callVi hJ (m_Mo_its0 hR0 (by omega)) k_Mo_76 zL.id d_Mo_isNear_39 hc_Mo 0 rfl rfl rfl (Nat.le_of_ble_eq_true rfl) ⟨by decide, by decide⟩ ?_
            refine z_iload_n hJ d_Mo_isNear_42 2 rfl ?_
            refine z_callSi hJ m_Mo_isUnder k_Mo_87 zL.nil d_Mo_isNear_43 rfl rfl (Nat.le_of_ble_eq_true rfl) ⟨by decide, by decide⟩ ?_
            refine z_c (y := zB (q_of (rk P j) w)) (by rw [ek, q_un_of hkc]) ?_
            refine zb_eq hJ d_Mo_isNear_46 (fun c_46 => ?_) (fun c_46 => ?_)
            · skip
              refine z_iconst (v := 0) hJ d_Mo_isNear_74 (by decide) ?_
              refine z_istore_n (lv' := [(0, _), (1, _), (2, _), (3, _), (4, _)]) hJ d_Mo_isNear_75 (by decide) rfl ?_
              refine z_iinc (v := nI (j + 1)) (lv' := [(0, _), (1, _), (2, _), (3, _), (4, _)]) hJ d_Mo_isNear_76 4 rfl (zinc _) (by decide) rfl ?_
              refine z_goto hJ d_Mo_isNear_79 ?_
              have e := ih (by omega)
              refine z_lv ?_ e
              rw [show q_near P (M.2.2.1 &&& q_awk P) p w (j + 1) = false from ?_]
              · rfl
              · simp [q_near, q_nc, c_13, c_17, c_23, c_32, c_46, h_23]
            · skip
              refine z_aload_n hJ d_Mo_isNear_49 0 rfl ?_
              refine z_iload_n hJ d_Mo_isNear_50 1 rfl ?_
              refine z_iconst (v := 1) hJ d_Mo_isNear_51 (by decide) ?_
              refine z_callVi hJ (m_Mo_its1 hR0 (by omega)) k_Mo_76 zL.id d_Mo_isNear_52 hc_Mo 0 rfl rfl rfl (Nat.le_of_ble_eq_true rfl) ⟨by decide, by decide⟩ ?_
              refine z_aload_n hJ d_Mo_isNear_55 0 rfl ?_
              refine z_iload hJ d_Mo_isNear_56 4 rfl ?_
              refine z_iconst (v := 1) hJ d_Mo_isNear_58 (by decide) ?_
              refine z_callVi hJ (m_Mo_its1 hR0 (by omega)) k_Mo_76 zL.id d_Mo_isNear_59 hc_Mo 0 rfl rfl rfl (Nat.le_of_ble_eq_true rfl) ⟨by decide, by decide⟩ ?_
              refine z_isub hJ d_Mo_isNear_62 ?_
              refine z_callSi hJ m_Mo_size k_Mo_90 zL.nil d_Mo_isNear_63 rfl rfl (Nat.le_of_ble_eq_true rfl) ⟨by decide, by decide⟩ ?_
              refine z_c (y := q_abs (rm P j - rm P p)) (by rw [ex1, ex2, q_size_sym hx1 hx2]) ?_
              refine z_iconst (v := 2) hJ d_Mo_isNear_66 (by decide) ?_
              refine z_icmp_gt hJ d_Mo_isNear_67 (fun c_67 => ?_) (fun c_67 => ?_)
              · skip
                refine z_iconst (v := 0) hJ d_Mo_isNear_74 (by decide) ?_
                refine z_istore_n (lv' := [(0, _), (1, _), (2, _), (3, _), (4, _)]) hJ d_Mo_isNear_75 (by decide) rfl ?_
                refine z_iinc (v := nI (j + 1)) (lv' := [(0, _), (1, _), (2, _), (3, _), (4, _)]) hJ d_Mo_isNear_76 4 rfl (zinc _) (by decide) rfl ?_
                refine z_goto hJ d_Mo_isNear_79 ?_
                have e := ih (by omega)
                refine z_lv ?_ e
                rw [show q_near P (M.2.2.1 &&& q_awk P) p w (j + 1) = false from ?_]
                · rfl
                · simp [q_near, q_nc, c_13, c_17, c_23, c_32, c_46, c_67, h_23]
              · skip
                refine z_iconst (v := 1) hJ d_Mo_isNear_70 (by decide) ?_
                refine z_goto hJ d_Mo_isNear_71 ?_
                refine z_istore_n (lv' := [(0, _), (1, _), (2, _), (3, _), (4, _)]) hJ d_Mo_isNear_75 (by decide) rfl ?_
                refine z_iinc (v := nI (j + 1)) (lv' := [(0, _), (1, _), (2, _), (3, _), (4, _)]) hJ d_Mo_isNear_76 4 rfl (zinc _) (by decide) rfl ?_
                refine z_goto hJ d_Mo_isNear_79 ?_
                have e := ih (by omega)
                refine z_lv ?_ e
                rw [show q_near P (M.2.2.1 &&& q_awk P) p w (j + 1) = true from ?_]
                · rfl
                · simp [q_near, q_nc, c_13, c_17, c_23, c_32, c_46, c_67, h_23]
  exact L5 0 (Nat.zero_le _)
set_option maxRecDepth 100000 in
theorem m_Mo_isSpoilt {g : Nat → Nat → Nat} {a : Nat → Nat} {M : MS} {P : RS} {p : Nat} (hR0 : zRo P M.1) (hP : zPi P) (hG : zRg P) (ha : M.2.2.1 < 2 ^ 31) (hp : p < P.2.1) : zM g y_Mo_isSpoilt b_Mo_isSpoilt 3 (some .boolean) 3 [.ref (a 0), .int (nI p)] (mW g a M) [.int (zB (q_spoilt P (M.2.2.1 &&& q_awk P) p))] (mW g a M) := by
  have hj7 := hP.1
  have hj8 := hP.2.1
  obtain ⟨kc, hkc, ek⟩ := (hG.2.2.1 p hp).1
  refine zMz (lv := [(0, .ref (a 0)), (1, .int (nI p))]) (by decide) (Nat.le_of_ble_eq_true rfl) rfl (fun J hJ hR => ?_)
  refine z_aload_n hJ d_Mo_isSpoilt_0 0 rfl ?_
  refine z_iload_n hJ d_Mo_isSpoilt_1 1 rfl ?_
  refine z_iconst (v := 0) hJ d_Mo_isSpoilt_2 (by decide) ?_
  refine z_callVi hJ (m_Mo_its0 hR0 (by omega)) k_Mo_76 zL.id d_Mo_isSpoilt_3 hc_Mo 0 rfl rfl rfl (Nat.le_of_ble_eq_true rfl) ⟨by decide, by decide⟩ ?_
  refine z_istore_n (lv' := [(0, _), (1, _), (2, _)]) hJ d_Mo_isSpoilt_6 (by decide) rfl ?_
  refine z_iload_n hJ d_Mo_isSpoilt_7 2 rfl ?_
  refine z_iconst (v := 2) hJ d_Mo_isSpoilt_8 (by decide) ?_
  refine z_icmp_ne hJ d_Mo_isSpoilt_9 (fun c_9 => ?_) (fun c_9 => ?_)
  · skip
    refine z_iload_n hJ d_Mo_isSpoilt_21 2 rfl ?_
    refine z_iconst (v := 1) hJ d_Mo_isSpoilt_22 (by decide) ?_
    refine z_callSi hJ m_Mo_isUnder k_Mo_87 zL.nil d_Mo_isSpoilt_23 rfl rfl (Nat.le_of_ble_eq_true rfl) ⟨by decide, by decide⟩ ?_
    refine zb_eq hJ d_Mo_isSpoilt_26 (fun c_26 => ?_) (fun c_26 => ?_)
    · skip
      refine z_iconst (v := 0) hJ d_Mo_isSpoilt_42 (by decide) ?_
      exact z_ri hR d_Mo_isSpoilt_43 (by rw [q_spoilt_m hkc ek]; simp [c_9, c_26]; try rfl) rfl
    · skip
      refine z_aload_n hJ d_Mo_isSpoilt_29 0 rfl ?_
      refine z_iload_n hJ d_Mo_isSpoilt_30 1 rfl ?_
      refine z_iconst (v := 5) hJ d_Mo_isSpoilt_31 (by decide) ?_
      refine z_callVi hJ (m_Mo_isNear hR0 hP hG ha hp) k_Mo_93 zL.id d_Mo_isSpoilt_32 hc_Mo 0 rfl rfl rfl (Nat.le_of_ble_eq_true rfl) ⟨by decide, by decide⟩ ?_
      refine zb_eq hJ d_Mo_isSpoilt_35 (fun c_35 => ?_) (fun c_35 => ?_)
      · skip
        refine z_iconst (v := 0) hJ d_Mo_isSpoilt_42 (by decide) ?_
        exact z_ri hR d_Mo_isSpoilt_43 (by rw [q_spoilt_m hkc ek]; simp [c_9, c_26, c_35]; try rfl) rfl
      · skip
        refine z_iconst (v := 1) hJ d_Mo_isSpoilt_38 (by decide) ?_
        refine z_goto hJ d_Mo_isSpoilt_39 ?_
        exact z_ri hR d_Mo_isSpoilt_43 (by rw [q_spoilt_m hkc ek]; simp [c_9, c_26, c_35]; try rfl) rfl
  · skip
    refine z_aload_n hJ d_Mo_isSpoilt_12 0 rfl ?_
    refine z_iload_n hJ d_Mo_isSpoilt_13 1 rfl ?_
    refine z_iconst (v := 3) hJ d_Mo_isSpoilt_14 (by decide) ?_
    refine z_callVi hJ (m_Mo_isNear hR0 hP hG ha hp) k_Mo_93 zL.id d_Mo_isSpoilt_15 hc_Mo 0 rfl rfl rfl (Nat.le_of_ble_eq_true rfl) ⟨by decide, by decide⟩ ?_
    refine z_goto hJ d_Mo_isSpoilt_18 ?_
    exact z_ri hR d_Mo_isSpoilt_43 (by rw [q_spoilt_m hkc ek]; simp [c_9]; try rfl) rfl
set_option maxRecDepth 100000 in
theorem m_Mo_doesIt {g : Nat → Nat → Nat} {a : Nat → Nat} {M : MS} {P : RS} {p c : Nat} (hR0 : zRo P M.1) (hp : p < 7) (hc : c < 5) : zM g y_Mo_doesIt b_Mo_doesIt 5 (some .int) 1 [.ref (a 0), .int (nI p), .int (nI c)] (mW g a M) [.int (q_work (rk P p) (nI c) (rs P p))] (mW g a M) := by
  refine zMi (lv := [(0, .ref (a 0)), (1, .int (nI p)), (2, .int (nI c))]) (by decide) (Nat.le_of_ble_eq_true rfl) rfl (fun J hJ hR => ?_)
  refine z_aload_n hJ d_Mo_doesIt_0 0 rfl ?_
  refine z_iload_n hJ d_Mo_doesIt_1 1 rfl ?_
  refine z_iconst (v := 0) hJ d_Mo_doesIt_2 (by decide) ?_
  refine z_callVi hJ (m_Mo_its0 hR0 (by omega)) k_Mo_76 zL.id d_Mo_doesIt_3 hc_Mo 0 rfl rfl rfl (Nat.le_of_ble_eq_true rfl) ⟨by decide, by decide⟩ ?_
  refine z_istore_n (lv' := [(0, _), (1, _), (2, _), (3, _)]) hJ d_Mo_doesIt_6 (by decide) rfl ?_
  refine z_aload_n hJ d_Mo_doesIt_7 0 rfl ?_
  refine z_iload_n hJ d_Mo_doesIt_8 1 rfl ?_
  refine z_iconst (v := 3) hJ d_Mo_doesIt_9 (by decide) ?_
  refine z_callVi hJ (m_Mo_its3 hR0 (by omega)) k_Mo_76 zL.id d_Mo_doesIt_10 hc_Mo 0 rfl rfl rfl (Nat.le_of_ble_eq_true rfl) ⟨by decide, by decide⟩ ?_
  refine z_istore (lv' := [(0, _), (1, _), (2, _), (3, _), (4, _)]) hJ d_Mo_doesIt_13 (by decide) rfl ?_
  refine z_iload_n hJ d_Mo_doesIt_15 2 rfl ?_
  refine z_sw (tgt := 135) [(0, 48), (1, 75), (2, 90), (3, 120)] hJ d_Mo_doesIt_16 (by decide) (by decide) ?_ (fun c_16 => ?_)
  · intro q hq e
    simp only [List.mem_cons, List.not_mem_nil, or_false] at hq
    rcases hq with rfl | rfl | rfl | rfl
    · have c_16 := e.trans (show Int32.ofInt 0 = 0 by decide)
      refine z_iload_n hJ d_Mo_doesIt_48 3 rfl ?_
      refine z_iconst (v := 1) hJ d_Mo_doesIt_49 (by decide) ?_
      refine z_icmp_ne hJ d_Mo_doesIt_50 (fun c_50 => ?_) (fun c_50 => ?_)
      · skip
        refine z_iload_n hJ d_Mo_doesIt_60 3 rfl ?_
        refine z_iconst (v := 4) hJ d_Mo_doesIt_61 (by decide) ?_
        refine z_icmp_ne hJ d_Mo_doesIt_62 (fun c_62 => ?_) (fun c_62 => ?_)
        · skip
          refine z_iconst (v := 1) hJ d_Mo_doesIt_73 (by decide) ?_
          exact z_ri hR d_Mo_doesIt_74 (by rw [q_work2 hc]; simp [c_16, c_50, c_62]; try rfl) rfl
        · skip
          refine z_bipush (v := 10) hJ d_Mo_doesIt_65 (by decide) ?_
          refine z_iload hJ d_Mo_doesIt_67 4 rfl ?_
          refine z_imul hJ d_Mo_doesIt_69 ?_
          refine z_goto hJ d_Mo_doesIt_70 ?_
          exact z_ri hR d_Mo_doesIt_74 (by rw [q_work2 hc]; simp [c_16, c_50, c_62]; try rfl) rfl
      · skip
        refine z_iconst (v := 5) hJ d_Mo_doesIt_53 (by decide) ?_
        refine z_iload hJ d_Mo_doesIt_54 4 rfl ?_
        refine z_imul hJ d_Mo_doesIt_56 ?_
        refine z_goto hJ d_Mo_doesIt_57 ?_
        exact z_ri hR d_Mo_doesIt_74 (by rw [q_work2 hc]; simp [c_16, c_50]; try rfl) rfl
    · have c_16 := e.trans (show Int32.ofInt 1 = 1 by decide)
      refine z_iload_n hJ d_Mo_doesIt_75 3 rfl ?_
      refine z_iconst (v := 2) hJ d_Mo_doesIt_76 (by decide) ?_
      refine z_icmp_ne hJ d_Mo_doesIt_77 (fun c_77 => ?_) (fun c_77 => ?_)
      · skip
        refine z_iconst (v := 1) hJ d_Mo_doesIt_88 (by decide) ?_
        exact z_ri hR d_Mo_doesIt_89 (by rw [q_work2 hc]; simp [c_16, c_77]; try rfl) rfl
      · skip
        refine z_bipush (v := 6) hJ d_Mo_doesIt_80 (by decide) ?_
        refine z_iload hJ d_Mo_doesIt_82 4 rfl ?_
        refine z_imul hJ d_Mo_doesIt_84 ?_
        refine z_goto hJ d_Mo_doesIt_85 ?_
        exact z_ri hR d_Mo_doesIt_89 (by rw [q_work2 hc]; simp [c_16, c_77]; try rfl) rfl
    · have c_16 := e.trans (show Int32.ofInt 2 = 2 by decide)
      refine z_iload_n hJ d_Mo_doesIt_90 3 rfl ?_
      refine z_iconst (v := 3) hJ d_Mo_doesIt_91 (by decide) ?_
      refine z_icmp_ne hJ d_Mo_doesIt_92 (fun c_92 => ?_) (fun c_92 => ?_)
      · skip
        refine z_iload_n hJ d_Mo_doesIt_103 3 rfl ?_
        refine z_iconst (v := 5) hJ d_Mo_doesIt_104 (by decide) ?_
        refine z_icmp_ne hJ d_Mo_doesIt_105 (fun c_105 => ?_) (fun c_105 => ?_)
        · skip
          refine z_iconst (v := 1) hJ d_Mo_doesIt_118 (by decide) ?_
          exact z_ri hR d_Mo_doesIt_119 (by rw [q_work2 hc]; simp [c_16, c_92, c_105]; try rfl) rfl
        · skip
          refine z_bipush (v := 7) hJ d_Mo_doesIt_108 (by decide) ?_
          refine z_iload hJ d_Mo_doesIt_110 4 rfl ?_
          refine z_imul hJ d_Mo_doesIt_112 ?_
          refine z_iconst (v := 2) hJ d_Mo_doesIt_113 (by decide) ?_
          refine z_idiv hJ d_Mo_doesIt_114 (by decide) ?_
          refine z_goto hJ d_Mo_doesIt_115 ?_
          exact z_ri hR d_Mo_doesIt_119 (by rw [q_work2 hc]; simp [c_16, c_92, c_105]; try rfl) rfl
      · skip
        refine z_bipush (v := 7) hJ d_Mo_doesIt_95 (by decide) ?_
        refine z_iload hJ d_Mo_doesIt_97 4 rfl ?_
        refine z_imul hJ d_Mo_doesIt_99 ?_
        refine z_goto hJ d_Mo_doesIt_100 ?_
        exact z_ri hR d_Mo_doesIt_119 (by rw [q_work2 hc]; simp [c_16, c_92]; try rfl) rfl
    · have c_16 := e.trans (show Int32.ofInt 3 = 3 by decide)
      refine z_iload_n hJ d_Mo_doesIt_120 3 rfl ?_
      refine z_iconst (v := 5) hJ d_Mo_doesIt_121 (by decide) ?_
      refine z_icmp_ne hJ d_Mo_doesIt_122 (fun c_122 => ?_) (fun c_122 => ?_)
      · skip
        refine z_iconst (v := 1) hJ d_Mo_doesIt_133 (by decide) ?_
        exact z_ri hR d_Mo_doesIt_134 (by rw [q_work2 hc]; simp [c_16, c_122]; try rfl) rfl
      · skip
        refine z_bipush (v := 8) hJ d_Mo_doesIt_125 (by decide) ?_
        refine z_iload hJ d_Mo_doesIt_127 4 rfl ?_
        refine z_imul hJ d_Mo_doesIt_129 ?_
        refine z_goto hJ d_Mo_doesIt_130 ?_
        exact z_ri hR d_Mo_doesIt_134 (by rw [q_work2 hc]; simp [c_16, c_122]; try rfl) rfl
  · skip
    have hc4 : c = 4 := by
      rcases (show c = 0 ∨ c = 1 ∨ c = 2 ∨ c = 3 ∨ c = 4 by omega) with rfl | rfl | rfl | rfl | rfl <;> first | rfl | exact absurd c_16 (by decide)
    subst hc4
    refine z_iload_n hJ d_Mo_doesIt_135 3 rfl ?_
    refine z_iconst (v := 4) hJ d_Mo_doesIt_136 (by decide) ?_
    refine z_icmp_ne hJ d_Mo_doesIt_137 (fun c_137 => ?_) (fun c_137 => ?_)
    · skip
      refine z_iconst (v := 2) hJ d_Mo_doesIt_144 (by decide) ?_
      refine z_iload hJ d_Mo_doesIt_145 4 rfl ?_
      refine z_imul hJ d_Mo_doesIt_147 ?_
      exact z_ri hR d_Mo_doesIt_148 (by rw [q_work2 hc, if_neg (show ¬ nI 4 = 0 by decide), if_neg (show ¬ nI 4 = 1 by decide), if_neg (show ¬ nI 4 = 2 by decide), if_neg (show ¬ nI 4 = 3 by decide)]; simp [c_137]) rfl
    · skip
      refine z_iconst (v := 0) hJ d_Mo_doesIt_140 (by decide) ?_
      refine z_goto hJ d_Mo_doesIt_141 ?_
      exact z_ri hR d_Mo_doesIt_148 (by rw [q_work2 hc, if_neg (show ¬ nI 4 = 0 by decide), if_neg (show ¬ nI 4 = 1 by decide), if_neg (show ¬ nI 4 = 2 by decide), if_neg (show ¬ nI 4 = 3 by decide)]; simp [c_137]) rfl
set_option maxRecDepth 100000 in
theorem m_Mo_isWanted {g : Nat → Nat → Nat} {so m ne pa : Int32}  : zM g y_Mo_isWanted b_Mo_isWanted 4 (some .boolean) 2 [.int so, .int m, .int ne, .int pa] ([]) [.int (zB (q_in so 0 4 && (q_in m 0 30 && (q_in ne 1 99 && q_in pa 0 99))))] ([]) := by
  refine zMz (lv := [(0, .int so), (1, .int m), (2, .int ne), (3, .int pa)]) (by decide) (Nat.le_of_ble_eq_true rfl) rfl (fun J hJ hR => ?_)
  refine z_iload_n hJ d_Mo_isWanted_0 0 rfl ?_
  refine z_iconst (v := 0) hJ d_Mo_isWanted_1 (by decide) ?_
  refine z_iconst (v := 4) hJ d_Mo_isWanted_2 (by decide) ?_
  refine z_callSi hJ m_Mo_in k_Mo_52 zL.nil d_Mo_isWanted_3 rfl rfl (Nat.le_of_ble_eq_true rfl) ⟨by decide, by decide⟩ ?_
  refine zb_eq hJ d_Mo_isWanted_6 (fun c_6 => ?_) (fun c_6 => ?_)
  · skip
    refine z_iconst (v := 0) hJ d_Mo_isWanted_40 (by decide) ?_
    exact z_ri hR d_Mo_isWanted_41 (by simp [c_6]; try rfl) rfl
  · skip
    refine z_iload_n hJ d_Mo_isWanted_9 1 rfl ?_
    refine z_callSi hJ m_Mo_isMile k_Mo_64 zL.nil d_Mo_isWanted_10 rfl rfl (Nat.le_of_ble_eq_true rfl) ⟨by decide, by decide⟩ ?_
    refine zb_eq hJ d_Mo_isWanted_13 (fun c_13 => ?_) (fun c_13 => ?_)
    · skip
      refine z_iconst (v := 0) hJ d_Mo_isWanted_40 (by decide) ?_
      exact z_ri hR d_Mo_isWanted_41 (by simp [c_6, c_13]; try rfl) rfl
    · skip
      refine z_iload_n hJ d_Mo_isWanted_16 2 rfl ?_
      refine z_iconst (v := 1) hJ d_Mo_isWanted_17 (by decide) ?_
      refine z_bipush (v := 99) hJ d_Mo_isWanted_18 (by decide) ?_
      refine z_callSi hJ m_Mo_in k_Mo_52 zL.nil d_Mo_isWanted_20 rfl rfl (Nat.le_of_ble_eq_true rfl) ⟨by decide, by decide⟩ ?_
      refine zb_eq hJ d_Mo_isWanted_23 (fun c_23 => ?_) (fun c_23 => ?_)
      · skip
        refine z_iconst (v := 0) hJ d_Mo_isWanted_40 (by decide) ?_
        exact z_ri hR d_Mo_isWanted_41 (by simp [c_6, c_13, c_23]; try rfl) rfl
      · skip
        refine z_iload_n hJ d_Mo_isWanted_26 3 rfl ?_
        refine z_iconst (v := 0) hJ d_Mo_isWanted_27 (by decide) ?_
        refine z_bipush (v := 99) hJ d_Mo_isWanted_28 (by decide) ?_
        refine z_callSi hJ m_Mo_in k_Mo_52 zL.nil d_Mo_isWanted_30 rfl rfl (Nat.le_of_ble_eq_true rfl) ⟨by decide, by decide⟩ ?_
        refine zb_eq hJ d_Mo_isWanted_33 (fun c_33 => ?_) (fun c_33 => ?_)
        · skip
          refine z_iconst (v := 0) hJ d_Mo_isWanted_40 (by decide) ?_
          exact z_ri hR d_Mo_isWanted_41 (by simp [c_6, c_13, c_23, c_33]; try rfl) rfl
        · skip
          refine z_iconst (v := 1) hJ d_Mo_isWanted_36 (by decide) ?_
          refine z_goto hJ d_Mo_isWanted_37 ?_
          exact z_ri hR d_Mo_isWanted_41 (by simp [c_6, c_13, c_23, c_33]; try rfl) rfl
set_option maxRecDepth 100000 in
theorem m_Mo_helpsIt {g : Nat → Nat → Nat} {a : Nat → Nat} {M : MS} {P : RS} {p t : Nat} (hR0 : zRo P M.1) (hP : zPi P) (hG : zRg P) (ha : M.2.2.1 < 2 ^ 31) (hp : p < P.2.1) (ht : t < P.2.2.1) : zM g y_Mo_helpsIt b_Mo_helpsIt 5 (some .int) 4 [.ref (a 0), .int (nI p), .int (nI t)] (mW g a M) [.int (q_help P (M.2.2.1 &&& q_awk P) (q_spm P (M.2.2.1 &&& q_awk P)) p t)] (mW g a M) := by
  have hj7 := hP.1
  have hj8 := hP.2.1
  obtain ⟨c, hc, ec⟩ := (hG.2.2.2 t ht).1
  refine zMi (lv := [(0, .ref (a 0)), (1, .int (nI p)), (2, .int (nI t))]) (by decide) (Nat.le_of_ble_eq_true rfl) rfl (fun J hJ hR => ?_)
  refine z_aload_n hJ d_Mo_helpsIt_0 0 rfl ?_
  refine z_iload_n hJ d_Mo_helpsIt_1 1 rfl ?_
  refine z_callVi hJ (m_Mo_isUp hR0 hP hG ha hp) k_Mo_84 zL.id d_Mo_helpsIt_2 hc_Mo 0 rfl rfl rfl (Nat.le_of_ble_eq_true rfl) ⟨by decide, by decide⟩ ?_
  refine zb_ne hJ d_Mo_helpsIt_5 (fun c_5 => ?_) (fun c_5 => ?_)
  · skip
    refine z_aload_n hJ d_Mo_helpsIt_10 0 rfl ?_
    refine z_iload_n hJ d_Mo_helpsIt_11 1 rfl ?_
    refine z_aload_n hJ d_Mo_helpsIt_12 0 rfl ?_
    refine z_iload_n hJ d_Mo_helpsIt_13 2 rfl ?_
    refine z_iconst (v := 0) hJ d_Mo_helpsIt_14 (by decide) ?_
    refine z_callVi hJ (m_Mo_asks0 hR0 (by omega)) k_Mo_117 zL.id d_Mo_helpsIt_15 hc_Mo 0 rfl rfl rfl (Nat.le_of_ble_eq_true rfl) ⟨by decide, by decide⟩ ?_
    refine z_c (y := nI c) ec ?_
    refine z_callVi hJ (m_Mo_doesIt hR0 (by omega) hc) k_Mo_106 zL.id d_Mo_helpsIt_18 hc_Mo 0 rfl rfl rfl (Nat.le_of_ble_eq_true rfl) ⟨by decide, by decide⟩ ?_
    refine z_c (y := q_work (rk P p) (rso P t) (rs P p)) (by rw [ec]) ?_
    refine z_istore_n (lv' := [(0, _), (1, _), (2, _), (3, _)]) hJ d_Mo_helpsIt_21 (by decide) rfl ?_
    refine z_aload_n hJ d_Mo_helpsIt_22 0 rfl ?_
    refine z_iload_n hJ d_Mo_helpsIt_23 1 rfl ?_
    refine z_callVi hJ (m_Mo_isSpoilt hR0 hP hG ha hp) k_Mo_99 zL.id d_Mo_helpsIt_24 hc_Mo 0 rfl rfl rfl (Nat.le_of_ble_eq_true rfl) ⟨by decide, by decide⟩ ?_
    refine zb_eq hJ d_Mo_helpsIt_27 (fun c_27 => ?_) (fun c_27 => ?_)
    · skip
      refine z_iload_n hJ d_Mo_helpsIt_36 3 rfl ?_
      refine z_aload_n hJ d_Mo_helpsIt_37 0 rfl ?_
      refine z_iload_n hJ d_Mo_helpsIt_38 1 rfl ?_
      refine z_iconst (v := 1) hJ d_Mo_helpsIt_39 (by decide) ?_
      refine z_callVi hJ (m_Mo_its1 hR0 (by omega)) k_Mo_76 zL.id d_Mo_helpsIt_40 hc_Mo 0 rfl rfl rfl (Nat.le_of_ble_eq_true rfl) ⟨by decide, by decide⟩ ?_
      refine z_aload_n hJ d_Mo_helpsIt_43 0 rfl ?_
      refine z_iload_n hJ d_Mo_helpsIt_44 2 rfl ?_
      refine z_iconst (v := 1) hJ d_Mo_helpsIt_45 (by decide) ?_
      refine z_callVi hJ (m_Mo_asks1 hR0 (by omega)) k_Mo_117 zL.id d_Mo_helpsIt_46 hc_Mo 0 rfl rfl rfl (Nat.le_of_ble_eq_true rfl) ⟨by decide, by decide⟩ ?_
      refine z_isub hJ d_Mo_helpsIt_49 ?_
      refine z_callSi hJ m_Mo_size k_Mo_90 zL.nil d_Mo_helpsIt_50 rfl rfl (Nat.le_of_ble_eq_true rfl) ⟨by decide, by decide⟩ ?_
      refine z_c (y := q_abs (rm P p - rtm P t)) (q_size_abs _) ?_
      refine z_isub hJ d_Mo_helpsIt_53 ?_
      refine z_istore (lv' := [(0, _), (1, _), (2, _), (3, _), (4, _)]) hJ d_Mo_helpsIt_54 (by decide) rfl ?_
      refine z_iload hJ d_Mo_helpsIt_56 4 rfl ?_
      refine z_if_ge hJ d_Mo_helpsIt_58 (fun c_58 => ?_) (fun c_58 => ?_)
      · skip
        refine z_iload hJ d_Mo_helpsIt_65 4 rfl ?_
        exact z_ri hR d_Mo_helpsIt_67 (by rw [q_help, q_spm_tb hp, q_max0]; simp [c_5, c_27, c_58]) rfl
      · skip
        refine z_iconst (v := 0) hJ d_Mo_helpsIt_61 (by decide) ?_
        refine z_goto hJ d_Mo_helpsIt_62 ?_
        exact z_ri hR d_Mo_helpsIt_67 (by rw [q_help, q_spm_tb hp, q_max0]; simp [c_5, c_27, c_58]) rfl
    · skip
      refine z_iload_n hJ d_Mo_helpsIt_30 3 rfl ?_
      refine z_iconst (v := 2) hJ d_Mo_helpsIt_31 (by decide) ?_
      refine z_idiv hJ d_Mo_helpsIt_32 (by decide) ?_
      refine z_goto hJ d_Mo_helpsIt_33 ?_
      refine z_aload_n hJ d_Mo_helpsIt_37 0 rfl ?_
      refine z_iload_n hJ d_Mo_helpsIt_38 1 rfl ?_
      refine z_iconst (v := 1) hJ d_Mo_helpsIt_39 (by decide) ?_
      refine z_callVi hJ (m_Mo_its1 hR0 (by omega)) k_Mo_76 zL.id d_Mo_helpsIt_40 hc_Mo 0 rfl rfl rfl (Nat.le_of_ble_eq_true rfl) ⟨by decide, by decide⟩ ?_
      refine z_aload_n hJ d_Mo_helpsIt_43 0 rfl ?_
      refine z_iload_n hJ d_Mo_helpsIt_44 2 rfl ?_
      refine z_iconst (v := 1) hJ d_Mo_helpsIt_45 (by decide) ?_
      refine z_callVi hJ (m_Mo_asks1 hR0 (by omega)) k_Mo_117 zL.id d_Mo_helpsIt_46 hc_Mo 0 rfl rfl rfl (Nat.le_of_ble_eq_true rfl) ⟨by decide, by decide⟩ ?_
      refine z_isub hJ d_Mo_helpsIt_49 ?_
      refine z_callSi hJ m_Mo_size k_Mo_90 zL.nil d_Mo_helpsIt_50 rfl rfl (Nat.le_of_ble_eq_true rfl) ⟨by decide, by decide⟩ ?_
      refine z_c (y := q_abs (rm P p - rtm P t)) (q_size_abs _) ?_
      refine z_isub hJ d_Mo_helpsIt_53 ?_
      refine z_istore (lv' := [(0, _), (1, _), (2, _), (3, _), (4, _)]) hJ d_Mo_helpsIt_54 (by decide) rfl ?_
      refine z_iload hJ d_Mo_helpsIt_56 4 rfl ?_
      refine z_if_ge hJ d_Mo_helpsIt_58 (fun c_58 => ?_) (fun c_58 => ?_)
      · skip
        refine z_iload hJ d_Mo_helpsIt_65 4 rfl ?_
        exact z_ri hR d_Mo_helpsIt_67 (by rw [q_help, q_spm_tb hp, q_max0]; simp [c_5, c_27, c_58]) rfl
      · skip
        refine z_iconst (v := 0) hJ d_Mo_helpsIt_61 (by decide) ?_
        refine z_goto hJ d_Mo_helpsIt_62 ?_
        exact z_ri hR d_Mo_helpsIt_67 (by rw [q_help, q_spm_tb hp, q_max0]; simp [c_5, c_27, c_58]) rfl
  · skip
    refine z_iconst (v := 0) hJ d_Mo_helpsIt_8 (by decide) ?_
    exact z_ri hR d_Mo_helpsIt_9 (by rw [q_help, q_spm_tb hp, q_max0]; simp [c_5]) rfl
set_option maxRecDepth 100000 in
theorem m_Mo_helpOf {g : Nat → Nat → Nat} {a : Nat → Nat} {M : MS} {P : RS} {t : Nat} (hR0 : zRo P M.1) (hP : zPi P) (hG : zRg P) (ha : M.2.2.1 < 2 ^ 31) (ht : t < P.2.2.1) : zM g y_Mo_helpOf b_Mo_helpOf 4 (some .int) 5 [.ref (a 0), .int (nI t)] (mW g a M) [.int (q_helpA P (M.2.2.1 &&& q_awk P) (q_spm P (M.2.2.1 &&& q_awk P)) t)] (mW g a M) := by
  have hj7 := hP.1
  have hj8 := hP.2.1
  refine zMi (lv := [(0, .ref (a 0)), (1, .int (nI t))]) (by decide) (Nat.le_of_ble_eq_true rfl) rfl (fun J hJ hR => ?_)
  refine z_iconst (v := 0) hJ d_Mo_helpOf_0 (by decide) ?_
  refine z_istore_n (lv' := [(0, _), (1, _), (2, _)]) hJ d_Mo_helpOf_1 (by decide) rfl ?_
  refine z_iconst (v := 0) hJ d_Mo_helpOf_2 (by decide) ?_
  refine z_istore_n (lv' := [(0, _), (1, _), (2, _), (3, _)]) hJ d_Mo_helpOf_3 (by decide) rfl ?_
  have L4 : ∀ j : Nat, j ≤ P.2.1 → J (mW g a M) 4 [(0, .ref (a 0)), (1, .int (nI t)), (2, .int (q_sum (fun i => q_help P (M.2.2.1 &&& q_awk P) (q_spm P (M.2.2.1 &&& q_awk P)) i t) j)), (3, .int (nI j))] [] := by
    refine zloop (P.2.1) (fun j hjN ih => ?_)
    refine z_iload_n hJ d_Mo_helpOf_4 3 rfl ?_
    refine z_aload_n hJ d_Mo_helpOf_5 0 rfl ?_
    refine z_get hJ d_Mo_helpOf_6 hc_Mo f_Mo_7 0 rfl rfl (by decide) ?_
    refine z_iconst (v := 1) hJ d_Mo_helpOf_9 (by decide) ?_
    refine z_iald hJ d_Mo_helpOf_10 1 (1) rfl rfl (by decide) (by decide) ?_
    refine z_c (y := nI P.2.1) hR0.2.1 ?_
    refine z_icmp_ge hJ d_Mo_helpOf_11 (fun c_11 => ?_) (fun c_11 => ?_)
    · skip
      have h_11 : P.2.1 ≤ j := by
        have e := nI_leI (a := P.2.1) (b := j) (by omega) (by omega)
        exact e.mp c_11
      obtain rfl : j = P.2.1 := by omega
      refine z_iload_n hJ d_Mo_helpOf_29 2 rfl ?_
      exact z_ri hR d_Mo_helpOf_30 rfl rfl
    · skip
      have h_11 : ¬ (P.2.1 ≤ j) := by
        have e := nI_leI (a := P.2.1) (b := j) (by omega) (by omega)
        exact fun q => c_11 (e.mpr q)
      refine z_iload_n hJ d_Mo_helpOf_14 2 rfl ?_
      refine z_aload_n hJ d_Mo_helpOf_15 0 rfl ?_
      refine z_iload_n hJ d_Mo_helpOf_16 3 rfl ?_
      refine z_iload_n hJ d_Mo_helpOf_17 1 rfl ?_
      refine z_callVi hJ (m_Mo_helpsIt hR0 hP hG ha (by omega) ht) k_Mo_120 zL.id d_Mo_helpOf_18 hc_Mo 0 rfl rfl rfl (Nat.le_of_ble_eq_true rfl) ⟨by decide, by decide⟩ ?_
      refine z_iadd hJ d_Mo_helpOf_21 ?_
      refine z_istore_n (lv' := [(0, _), (1, _), (2, _), (3, _)]) hJ d_Mo_helpOf_22 (by decide) rfl ?_
      refine z_iinc (v := nI (j + 1)) (lv' := [(0, _), (1, _), (2, _), (3, _)]) hJ d_Mo_helpOf_23 3 rfl (zinc _) (by decide) rfl ?_
      refine z_goto hJ d_Mo_helpOf_26 ?_
      exact ih (by omega)
  exact L4 0 (Nat.zero_le _)
set_option maxRecDepth 100000 in
theorem m_Mo_helpers {g : Nat → Nat → Nat} {a : Nat → Nat} {M : MS} {P : RS} {t : Nat} (hR0 : zRo P M.1) (hP : zPi P) (hG : zRg P) (ha : M.2.2.1 < 2 ^ 31) (ht : t < P.2.2.1) : zM g y_Mo_helpers b_Mo_helpers 4 (some .int) 5 [.ref (a 0), .int (nI t)] (mW g a M) [.int (nI (q_helpers P (M.2.2.1 &&& q_awk P) (q_spm P (M.2.2.1 &&& q_awk P)) t))] (mW g a M) := by
  have hj7 := hP.1
  have hj8 := hP.2.1
  refine zMi (lv := [(0, .ref (a 0)), (1, .int (nI t))]) (by decide) (Nat.le_of_ble_eq_true rfl) rfl (fun J hJ hR => ?_)
  refine z_iconst (v := 0) hJ d_Mo_helpers_0 (by decide) ?_
  refine z_istore_n (lv' := [(0, _), (1, _), (2, _)]) hJ d_Mo_helpers_1 (by decide) rfl ?_
  refine z_iconst (v := 0) hJ d_Mo_helpers_2 (by decide) ?_
  refine z_istore_n (lv' := [(0, _), (1, _), (2, _), (3, _)]) hJ d_Mo_helpers_3 (by decide) rfl ?_
  have L4 : ∀ j : Nat, j ≤ P.2.1 → J (mW g a M) 4 [(0, .ref (a 0)), (1, .int (nI t)), (2, .int (nI (q_mask (fun i => decide (¬ q_help P (M.2.2.1 &&& q_awk P) (q_spm P (M.2.2.1 &&& q_awk P)) i t ≤ 0)) j))), (3, .int (nI j))] [] := by
    refine zloop (P.2.1) (fun j hjN ih => ?_)
    refine z_iload_n hJ d_Mo_helpers_4 3 rfl ?_
    refine z_aload_n hJ d_Mo_helpers_5 0 rfl ?_
    refine z_get hJ d_Mo_helpers_6 hc_Mo f_Mo_7 0 rfl rfl (by decide) ?_
    refine z_iconst (v := 1) hJ d_Mo_helpers_9 (by decide) ?_
    refine z_iald hJ d_Mo_helpers_10 1 (1) rfl rfl (by decide) (by decide) ?_
    refine z_c (y := nI P.2.1) hR0.2.1 ?_
    refine z_icmp_ge hJ d_Mo_helpers_11 (fun c_11 => ?_) (fun c_11 => ?_)
    · skip
      have h_11 : P.2.1 ≤ j := by
        have e := nI_leI (a := P.2.1) (b := j) (by omega) (by omega)
        exact e.mp c_11
      obtain rfl : j = P.2.1 := by omega
      refine z_iload_n hJ d_Mo_helpers_39 2 rfl ?_
      exact z_ri hR d_Mo_helpers_40 rfl rfl
    · skip
      have h_11 : ¬ (P.2.1 ≤ j) := by
        have e := nI_leI (a := P.2.1) (b := j) (by omega) (by omega)
        exact fun q => c_11 (e.mpr q)
      refine z_iload_n hJ d_Mo_helpers_14 2 rfl ?_
      refine z_aload_n hJ d_Mo_helpers_15 0 rfl ?_
      refine z_iload_n hJ d_Mo_helpers_16 3 rfl ?_
      refine z_iload_n hJ d_Mo_helpers_17 1 rfl ?_
      refine z_callVi hJ (m_Mo_helpsIt hR0 hP hG ha (by omega) ht) k_Mo_120 zL.id d_Mo_helpers_18 hc_Mo 0 rfl rfl rfl (Nat.le_of_ble_eq_true rfl) ⟨by decide, by decide⟩ ?_
      refine z_if_le hJ d_Mo_helpers_21 (fun c_21 => ?_) (fun c_21 => ?_)
      · skip
        refine z_iconst (v := 0) hJ d_Mo_helpers_30 (by decide) ?_
        refine z_ior hJ d_Mo_helpers_31 ?_
        refine z_c (q_mask_f0 (f := (fun i => decide (¬ q_help P (M.2.2.1 &&& q_awk P) (q_spm P (M.2.2.1 &&& q_awk P)) i t ≤ 0))) (by simp [c_21])) ?_
        refine z_istore_n (lv' := [(0, _), (1, _), (2, _), (3, _)]) hJ d_Mo_helpers_32 (by decide) rfl ?_
        refine z_iinc (v := nI (j + 1)) (lv' := [(0, _), (1, _), (2, _), (3, _)]) hJ d_Mo_helpers_33 3 rfl (zinc _) (by decide) rfl ?_
        refine z_goto hJ d_Mo_helpers_36 ?_
        exact ih (by omega)
      · skip
        refine z_iconst (v := 1) hJ d_Mo_helpers_24 (by decide) ?_
        refine z_iload_n hJ d_Mo_helpers_25 3 rfl ?_
        refine z_ishl hJ d_Mo_helpers_26 ?_
        refine z_goto hJ d_Mo_helpers_27 ?_
        refine z_ior hJ d_Mo_helpers_31 ?_
        refine z_c (q_mask_t (f := (fun i => decide (¬ q_help P (M.2.2.1 &&& q_awk P) (q_spm P (M.2.2.1 &&& q_awk P)) i t ≤ 0))) (by simp [c_21]) (by omega)) ?_
        refine z_istore_n (lv' := [(0, _), (1, _), (2, _), (3, _)]) hJ d_Mo_helpers_32 (by decide) rfl ?_
        refine z_iinc (v := nI (j + 1)) (lv' := [(0, _), (1, _), (2, _), (3, _)]) hJ d_Mo_helpers_33 3 rfl (zinc _) (by decide) rfl ?_
        refine z_goto hJ d_Mo_helpers_36 ?_
        exact ih (by omega)
  exact L4 0 (Nat.zero_le _)
set_option maxRecDepth 100000 in
theorem m_Mo_isMet {g : Nat → Nat → Nat} {a : Nat → Nat} {M : MS} {P : RS} {t : Nat} (hR0 : zRo P M.1) (hP : zPi P) (hG : zRg P) (ha : M.2.2.1 < 2 ^ 31) (ht : t < P.2.2.1) : zM g y_Mo_isMet b_Mo_isMet 2 (some .boolean) 6 [.ref (a 0), .int (nI t)] (mW g a M) [.int (zB (q_isMet P (M.2.2.1 &&& q_awk P) t))] (mW g a M) := by
  have hj7 := hP.1
  have hj8 := hP.2.1
  refine zMz (lv := [(0, .ref (a 0)), (1, .int (nI t))]) (by decide) (Nat.le_of_ble_eq_true rfl) rfl (fun J hJ hR => ?_)
  refine z_aload_n hJ d_Mo_isMet_0 0 rfl ?_
  refine z_iload_n hJ d_Mo_isMet_1 1 rfl ?_
  refine z_callVi hJ (m_Mo_helpOf hR0 hP hG ha ht) k_Mo_123 zL.id d_Mo_isMet_2 hc_Mo 0 rfl rfl rfl (Nat.le_of_ble_eq_true rfl) ⟨by decide, by decide⟩ ?_
  refine z_aload_n hJ d_Mo_isMet_5 0 rfl ?_
  refine z_iload_n hJ d_Mo_isMet_6 1 rfl ?_
  refine z_iconst (v := 2) hJ d_Mo_isMet_7 (by decide) ?_
  refine z_callVi hJ (m_Mo_asks2 hR0 (by omega)) k_Mo_117 zL.id d_Mo_isMet_8 hc_Mo 0 rfl rfl rfl (Nat.le_of_ble_eq_true rfl) ⟨by decide, by decide⟩ ?_
  refine z_icmp_lt hJ d_Mo_isMet_11 (fun c_11 => ?_) (fun c_11 => ?_)
  · skip
    refine z_iconst (v := 0) hJ d_Mo_isMet_18 (by decide) ?_
    exact z_ri hR d_Mo_isMet_19 (by simp [q_isMet, c_11]; try rfl) rfl
  · skip
    refine z_iconst (v := 1) hJ d_Mo_isMet_14 (by decide) ?_
    refine z_goto hJ d_Mo_isMet_15 ?_
    exact z_ri hR d_Mo_isMet_19 (by simp [q_isMet, c_11]; try rfl) rfl
set_option maxRecDepth 100000 in
theorem m_Mo_metNow {g : Nat → Nat → Nat} {a : Nat → Nat} {M : MS} {P : RS}  (hR0 : zRo P M.1) (hP : zPi P) (hG : zRg P) (ha : M.2.2.1 < 2 ^ 31) : zM g y_Mo_metNow b_Mo_metNow 3 (some .int) 7 [.ref (a 0)] (mW g a M) [.int (nI (q_metS P (M.2.2.1 &&& q_awk P)))] (mW g a M) := by
  have hj7 := hP.1
  have hj8 := hP.2.1
  refine zMi (lv := [(0, .ref (a 0))]) (by decide) (Nat.le_of_ble_eq_true rfl) rfl (fun J hJ hR => ?_)
  refine z_iconst (v := 0) hJ d_Mo_metNow_0 (by decide) ?_
  refine z_istore_n (lv' := [(0, _), (1, _)]) hJ d_Mo_metNow_1 (by decide) rfl ?_
  refine z_iconst (v := 0) hJ d_Mo_metNow_2 (by decide) ?_
  refine z_istore_n (lv' := [(0, _), (1, _), (2, _)]) hJ d_Mo_metNow_3 (by decide) rfl ?_
  have L4 : ∀ j : Nat, j ≤ P.2.2.1 → J (mW g a M) 4 [(0, .ref (a 0)), (1, .int (nI (q_mask (fun t => q_isMet P (M.2.2.1 &&& q_awk P) t) j))), (2, .int (nI j))] [] := by
    refine zloop (P.2.2.1) (fun j hjN ih => ?_)
    refine z_iload_n hJ d_Mo_metNow_4 2 rfl ?_
    refine z_aload_n hJ d_Mo_metNow_5 0 rfl ?_
    refine z_get hJ d_Mo_metNow_6 hc_Mo f_Mo_7 0 rfl rfl (by decide) ?_
    refine z_iconst (v := 2) hJ d_Mo_metNow_9 (by decide) ?_
    refine z_iald hJ d_Mo_metNow_10 1 (2) rfl rfl (by decide) (by decide) ?_
    refine z_c (y := nI P.2.2.1) hR0.2.2.1 ?_
    refine z_icmp_ge hJ d_Mo_metNow_11 (fun c_11 => ?_) (fun c_11 => ?_)
    · skip
      have h_11 : P.2.2.1 ≤ j := by
        have e := nI_leI (a := P.2.2.1) (b := j) (by omega) (by omega)
        exact e.mp c_11
      obtain rfl : j = P.2.2.1 := by omega
      refine z_iload_n hJ d_Mo_metNow_38 1 rfl ?_
      exact z_ri hR d_Mo_metNow_39 rfl rfl
    · skip
      have h_11 : ¬ (P.2.2.1 ≤ j) := by
        have e := nI_leI (a := P.2.2.1) (b := j) (by omega) (by omega)
        exact fun q => c_11 (e.mpr q)
      refine z_iload_n hJ d_Mo_metNow_14 1 rfl ?_
      refine z_aload_n hJ d_Mo_metNow_15 0 rfl ?_
      refine z_iload_n hJ d_Mo_metNow_16 2 rfl ?_
      refine z_callVi hJ (m_Mo_isMet hR0 hP hG ha (by omega)) k_Mo_129 zL.id d_Mo_metNow_17 hc_Mo 0 rfl rfl rfl (Nat.le_of_ble_eq_true rfl) ⟨by decide, by decide⟩ ?_
      refine zb_eq hJ d_Mo_metNow_20 (fun c_20 => ?_) (fun c_20 => ?_)
      · skip
        refine z_iconst (v := 0) hJ d_Mo_metNow_29 (by decide) ?_
        refine z_ior hJ d_Mo_metNow_30 ?_
        refine z_c (q_mask_f0 (f := (fun t => q_isMet P (M.2.2.1 &&& q_awk P) t)) c_20) ?_
        refine z_istore_n (lv' := [(0, _), (1, _), (2, _)]) hJ d_Mo_metNow_31 (by decide) rfl ?_
        refine z_iinc (v := nI (j + 1)) (lv' := [(0, _), (1, _), (2, _)]) hJ d_Mo_metNow_32 2 rfl (zinc _) (by decide) rfl ?_
        refine z_goto hJ d_Mo_metNow_35 ?_
        exact ih (by omega)
      · skip
        refine z_iconst (v := 1) hJ d_Mo_metNow_23 (by decide) ?_
        refine z_iload_n hJ d_Mo_metNow_24 2 rfl ?_
        refine z_ishl hJ d_Mo_metNow_25 ?_
        refine z_goto hJ d_Mo_metNow_26 ?_
        refine z_ior hJ d_Mo_metNow_30 ?_
        refine z_c (q_mask_t (f := (fun t => q_isMet P (M.2.2.1 &&& q_awk P) t)) c_20 (by omega)) ?_
        refine z_istore_n (lv' := [(0, _), (1, _), (2, _)]) hJ d_Mo_metNow_31 (by decide) rfl ?_
        refine z_iinc (v := nI (j + 1)) (lv' := [(0, _), (1, _), (2, _)]) hJ d_Mo_metNow_32 2 rfl (zinc _) (by decide) rfl ?_
        refine z_goto hJ d_Mo_metNow_35 ?_
        exact ih (by omega)
  exact L4 0 (Nat.zero_le _)
set_option maxRecDepth 100000 in
theorem m_Mo_earned {g : Nat → Nat → Nat} {a : Nat → Nat} {M : MS} {P : RS}  (hR0 : zRo P M.1) (hP : zPi P) (hG : zRg P) (ha : M.2.2.1 < 2 ^ 31) : zM g y_Mo_earned b_Mo_earned 3 (some .int) 7 [.ref (a 0)] (mW g a M) [.int (q_earn P (M.2.2.1 &&& q_awk P))] (mW g a M) := by
  have hj7 := hP.1
  have hj8 := hP.2.1
  refine zMi (lv := [(0, .ref (a 0))]) (by decide) (Nat.le_of_ble_eq_true rfl) rfl (fun J hJ hR => ?_)
  refine z_iconst (v := 0) hJ d_Mo_earned_0 (by decide) ?_
  refine z_istore_n (lv' := [(0, _), (1, _)]) hJ d_Mo_earned_1 (by decide) rfl ?_
  refine z_iconst (v := 0) hJ d_Mo_earned_2 (by decide) ?_
  refine z_istore_n (lv' := [(0, _), (1, _), (2, _)]) hJ d_Mo_earned_3 (by decide) rfl ?_
  have L4 : ∀ j : Nat, j ≤ P.2.2.1 → J (mW g a M) 4 [(0, .ref (a 0)), (1, .int (q_sumif (fun t => (q_metS P (M.2.2.1 &&& q_awk P)).testBit t) (rpa P) j)), (2, .int (nI j))] [] := by
    refine zloop (P.2.2.1) (fun j hjN ih => ?_)
    refine z_iload_n hJ d_Mo_earned_4 2 rfl ?_
    refine z_aload_n hJ d_Mo_earned_5 0 rfl ?_
    refine z_get hJ d_Mo_earned_6 hc_Mo f_Mo_7 0 rfl rfl (by decide) ?_
    refine z_iconst (v := 2) hJ d_Mo_earned_9 (by decide) ?_
    refine z_iald hJ d_Mo_earned_10 1 (2) rfl rfl (by decide) (by decide) ?_
    refine z_c (y := nI P.2.2.1) hR0.2.2.1 ?_
    refine z_icmp_ge hJ d_Mo_earned_11 (fun c_11 => ?_) (fun c_11 => ?_)
    · skip
      have h_11 : P.2.2.1 ≤ j := by
        have e := nI_leI (a := P.2.2.1) (b := j) (by omega) (by omega)
        exact e.mp c_11
      obtain rfl : j = P.2.2.1 := by omega
      refine z_iload_n hJ d_Mo_earned_41 1 rfl ?_
      exact z_ri hR d_Mo_earned_42 rfl rfl
    · skip
      have h_11 : ¬ (P.2.2.1 ≤ j) := by
        have e := nI_leI (a := P.2.2.1) (b := j) (by omega) (by omega)
        exact fun q => c_11 (e.mpr q)
      refine z_iload_n hJ d_Mo_earned_14 1 rfl ?_
      refine z_aload_n hJ d_Mo_earned_15 0 rfl ?_
      refine z_iload_n hJ d_Mo_earned_16 2 rfl ?_
      refine z_callVi hJ (m_Mo_isMet hR0 hP hG ha (by omega)) k_Mo_129 zL.id d_Mo_earned_17 hc_Mo 0 rfl rfl rfl (Nat.le_of_ble_eq_true rfl) ⟨by decide, by decide⟩ ?_
      refine zb_eq hJ d_Mo_earned_20 (fun c_20 => ?_) (fun c_20 => ?_)
      · skip
        refine z_iconst (v := 0) hJ d_Mo_earned_32 (by decide) ?_
        refine z_iadd hJ d_Mo_earned_33 ?_
        refine z_istore_n (lv' := [(0, _), (1, _), (2, _)]) hJ d_Mo_earned_34 (by decide) rfl ?_
        refine z_iinc (v := nI (j + 1)) (lv' := [(0, _), (1, _), (2, _)]) hJ d_Mo_earned_35 2 rfl (zinc _) (by decide) rfl ?_
        refine z_goto hJ d_Mo_earned_38 ?_
        have e := ih (by omega)
        rw [q_sumif_add (f := (fun t => (q_metS P (M.2.2.1 &&& q_awk P)).testBit t)) (by rw [q_metS_tb (by omega), c_20])] at e
        exact e
      · skip
        refine z_aload_n hJ d_Mo_earned_23 0 rfl ?_
        refine z_iload_n hJ d_Mo_earned_24 2 rfl ?_
        refine z_iconst (v := 3) hJ d_Mo_earned_25 (by decide) ?_
        refine z_callVi hJ (m_Mo_asks3 hR0 (by omega)) k_Mo_117 zL.id d_Mo_earned_26 hc_Mo 0 rfl rfl rfl (Nat.le_of_ble_eq_true rfl) ⟨by decide, by decide⟩ ?_
        refine z_goto hJ d_Mo_earned_29 ?_
        refine z_iadd hJ d_Mo_earned_33 ?_
        refine z_istore_n (lv' := [(0, _), (1, _), (2, _)]) hJ d_Mo_earned_34 (by decide) rfl ?_
        refine z_iinc (v := nI (j + 1)) (lv' := [(0, _), (1, _), (2, _)]) hJ d_Mo_earned_35 2 rfl (zinc _) (by decide) rfl ?_
        refine z_goto hJ d_Mo_earned_38 ?_
        have e := ih (by omega)
        rw [q_sumif_t (f := (fun t => (q_metS P (M.2.2.1 &&& q_awk P)).testBit t)) (by rw [q_metS_tb (by omega), c_20])] at e
        exact e
  exact L4 0 (Nat.zero_le _)
