set_option maxRecDepth 100000 in
theorem m_Sx_isWithin {g : Nat → Nat → Nat} {v lo hi : Int32}  : zM g y_Sx_isWithin b_Sx_isWithin 3 (some .boolean) 0 [.int v, .int lo, .int hi] ([]) [.int (zB (q_in v lo hi))] ([]) := by
  refine zMz (lv := [(0, .int v), (1, .int lo), (2, .int hi)]) (by decide) (Nat.le_of_ble_eq_true rfl) rfl (fun J hJ hR => ?_)
  refine z_iload_n hJ d_Sx_isWithin_0 0 rfl ?_
  refine z_iload_n hJ d_Sx_isWithin_1 1 rfl ?_
  refine z_icmp_lt hJ d_Sx_isWithin_2 (fun c_2 => ?_) (fun c_2 => ?_)
  · skip
    refine z_iconst (v := 0) hJ d_Sx_isWithin_14 (by decide) ?_
    exact z_ri hR d_Sx_isWithin_15 (by simp [q_in, c_2]; try rfl) rfl
  · skip
    refine z_iload_n hJ d_Sx_isWithin_5 0 rfl ?_
    refine z_iload_n hJ d_Sx_isWithin_6 2 rfl ?_
    refine z_icmp_gt hJ d_Sx_isWithin_7 (fun c_7 => ?_) (fun c_7 => ?_)
    · skip
      refine z_iconst (v := 0) hJ d_Sx_isWithin_14 (by decide) ?_
      exact z_ri hR d_Sx_isWithin_15 (by simp [q_in, c_2, c_7]; try rfl) rfl
    · skip
      refine z_iconst (v := 1) hJ d_Sx_isWithin_10 (by decide) ?_
      refine z_goto hJ d_Sx_isWithin_11 ?_
      exact z_ri hR d_Sx_isWithin_15 (by simp [q_in, c_2, c_7]; try rfl) rfl
set_option maxRecDepth 100000 in
theorem m_Mo_in {g : Nat → Nat → Nat} {v lo hi : Int32}  : zM g y_Mo_in b_Mo_in 3 (some .boolean) 0 [.int v, .int lo, .int hi] ([]) [.int (zB (q_in v lo hi))] ([]) := by
  refine zMz (lv := [(0, .int v), (1, .int lo), (2, .int hi)]) (by decide) (Nat.le_of_ble_eq_true rfl) rfl (fun J hJ hR => ?_)
  refine z_iload_n hJ d_Mo_in_0 0 rfl ?_
  refine z_iload_n hJ d_Mo_in_1 1 rfl ?_
  refine z_icmp_lt hJ d_Mo_in_2 (fun c_2 => ?_) (fun c_2 => ?_)
  · skip
    refine z_iconst (v := 0) hJ d_Mo_in_14 (by decide) ?_
    exact z_ri hR d_Mo_in_15 (by simp [q_in, c_2]; try rfl) rfl
  · skip
    refine z_iload_n hJ d_Mo_in_5 0 rfl ?_
    refine z_iload_n hJ d_Mo_in_6 2 rfl ?_
    refine z_icmp_gt hJ d_Mo_in_7 (fun c_7 => ?_) (fun c_7 => ?_)
    · skip
      refine z_iconst (v := 0) hJ d_Mo_in_14 (by decide) ?_
      exact z_ri hR d_Mo_in_15 (by simp [q_in, c_2, c_7]; try rfl) rfl
    · skip
      refine z_iconst (v := 1) hJ d_Mo_in_10 (by decide) ?_
      refine z_goto hJ d_Mo_in_11 ?_
      exact z_ri hR d_Mo_in_15 (by simp [q_in, c_2, c_7]; try rfl) rfl
set_option maxRecDepth 100000 in
theorem m_Sx_isKind {g : Nat → Nat → Nat} {v : Int32}  : zM g y_Sx_isKind b_Sx_isKind 1 (some .boolean) 1 [.int v] ([]) [.int (zB (q_in v 0 5))] ([]) := by
  refine zMz (lv := [(0, .int v)]) (by decide) (Nat.le_of_ble_eq_true rfl) rfl (fun J hJ hR => ?_)
  refine z_iload_n hJ d_Sx_isKind_0 0 rfl ?_
  refine z_iconst (v := 0) hJ d_Sx_isKind_1 (by decide) ?_
  refine z_iconst (v := 5) hJ d_Sx_isKind_2 (by decide) ?_
  refine z_callSi hJ m_Sx_isWithin k_Sx_110 zL.nil d_Sx_isKind_3 rfl rfl (Nat.le_of_ble_eq_true rfl) ⟨by decide, by decide⟩ ?_
  exact z_ri hR d_Sx_isKind_6 rfl rfl
set_option maxRecDepth 100000 in
theorem m_Sx_isSort {g : Nat → Nat → Nat} {v : Int32}  : zM g y_Sx_isSort b_Sx_isSort 1 (some .boolean) 1 [.int v] ([]) [.int (zB (q_in v 0 4))] ([]) := by
  refine zMz (lv := [(0, .int v)]) (by decide) (Nat.le_of_ble_eq_true rfl) rfl (fun J hJ hR => ?_)
  refine z_iload_n hJ d_Sx_isSort_0 0 rfl ?_
  refine z_iconst (v := 0) hJ d_Sx_isSort_1 (by decide) ?_
  refine z_iconst (v := 4) hJ d_Sx_isSort_2 (by decide) ?_
  refine z_callSi hJ m_Sx_isWithin k_Sx_110 zL.nil d_Sx_isSort_3 rfl rfl (Nat.le_of_ble_eq_true rfl) ⟨by decide, by decide⟩ ?_
  exact z_ri hR d_Sx_isSort_6 rfl rfl
set_option maxRecDepth 100000 in
theorem m_Sx_isMile {g : Nat → Nat → Nat} {v : Int32}  : zM g y_Sx_isMile b_Sx_isMile 1 (some .boolean) 1 [.int v] ([]) [.int (zB (q_in v 0 30))] ([]) := by
  refine zMz (lv := [(0, .int v)]) (by decide) (Nat.le_of_ble_eq_true rfl) rfl (fun J hJ hR => ?_)
  refine z_iload_n hJ d_Sx_isMile_0 0 rfl ?_
  refine z_iconst (v := 0) hJ d_Sx_isMile_1 (by decide) ?_
  refine z_bipush (v := 30) hJ d_Sx_isMile_2 (by decide) ?_
  refine z_callSi hJ m_Sx_isWithin k_Sx_110 zL.nil d_Sx_isMile_4 rfl rfl (Nat.le_of_ble_eq_true rfl) ⟨by decide, by decide⟩ ?_
  exact z_ri hR d_Sx_isMile_7 rfl rfl
set_option maxRecDepth 100000 in
theorem m_Sx_isSheet {g : Nat → Nat → Nat} {v : Int32}  : zM g y_Sx_isSheet b_Sx_isSheet 1 (some .boolean) 1 [.int v] ([]) [.int (zB (q_in v 0 3))] ([]) := by
  refine zMz (lv := [(0, .int v)]) (by decide) (Nat.le_of_ble_eq_true rfl) rfl (fun J hJ hR => ?_)
  refine z_iload_n hJ d_Sx_isSheet_0 0 rfl ?_
  refine z_iconst (v := 0) hJ d_Sx_isSheet_1 (by decide) ?_
  refine z_iconst (v := 3) hJ d_Sx_isSheet_2 (by decide) ?_
  refine z_callSi hJ m_Sx_isWithin k_Sx_110 zL.nil d_Sx_isSheet_3 rfl rfl (Nat.le_of_ble_eq_true rfl) ⟨by decide, by decide⟩ ?_
  exact z_ri hR d_Sx_isSheet_6 rfl rfl
set_option maxRecDepth 100000 in
theorem m_Mo_isKind {g : Nat → Nat → Nat} {v : Int32}  : zM g y_Mo_isKind b_Mo_isKind 1 (some .boolean) 1 [.int v] ([]) [.int (zB (q_in v 0 5))] ([]) := by
  refine zMz (lv := [(0, .int v)]) (by decide) (Nat.le_of_ble_eq_true rfl) rfl (fun J hJ hR => ?_)
  refine z_iload_n hJ d_Mo_isKind_0 0 rfl ?_
  refine z_iconst (v := 0) hJ d_Mo_isKind_1 (by decide) ?_
  refine z_iconst (v := 5) hJ d_Mo_isKind_2 (by decide) ?_
  refine z_callSi hJ m_Mo_in k_Mo_52 zL.nil d_Mo_isKind_3 rfl rfl (Nat.le_of_ble_eq_true rfl) ⟨by decide, by decide⟩ ?_
  exact z_ri hR d_Mo_isKind_6 rfl rfl
set_option maxRecDepth 100000 in
theorem m_Mo_isMile {g : Nat → Nat → Nat} {v : Int32}  : zM g y_Mo_isMile b_Mo_isMile 1 (some .boolean) 1 [.int v] ([]) [.int (zB (q_in v 0 30))] ([]) := by
  refine zMz (lv := [(0, .int v)]) (by decide) (Nat.le_of_ble_eq_true rfl) rfl (fun J hJ hR => ?_)
  refine z_iload_n hJ d_Mo_isMile_0 0 rfl ?_
  refine z_iconst (v := 0) hJ d_Mo_isMile_1 (by decide) ?_
  refine z_bipush (v := 30) hJ d_Mo_isMile_2 (by decide) ?_
  refine z_callSi hJ m_Mo_in k_Mo_52 zL.nil d_Mo_isMile_4 rfl rfl (Nat.le_of_ble_eq_true rfl) ⟨by decide, by decide⟩ ?_
  exact z_ri hR d_Mo_isMile_7 rfl rfl
set_option maxRecDepth 100000 in
theorem m_Mo_isSheet {g : Nat → Nat → Nat} {v : Int32}  : zM g y_Mo_isSheet b_Mo_isSheet 1 (some .boolean) 1 [.int v] ([]) [.int (zB (q_in v 0 3))] ([]) := by
  refine zMz (lv := [(0, .int v)]) (by decide) (Nat.le_of_ble_eq_true rfl) rfl (fun J hJ hR => ?_)
  refine z_iload_n hJ d_Mo_isSheet_0 0 rfl ?_
  refine z_iconst (v := 0) hJ d_Mo_isSheet_1 (by decide) ?_
  refine z_iconst (v := 3) hJ d_Mo_isSheet_2 (by decide) ?_
  refine z_callSi hJ m_Mo_in k_Mo_52 zL.nil d_Mo_isSheet_3 rfl rfl (Nat.le_of_ble_eq_true rfl) ⟨by decide, by decide⟩ ?_
  exact z_ri hR d_Mo_isSheet_6 rfl rfl
set_option maxRecDepth 100000 in
theorem m_Mo_isLetter {g : Nat → Nat → Nat} {v : Int32}  : zM g y_Mo_isLetter b_Mo_isLetter 1 (some .boolean) 1 [.int v] ([]) [.int (zB (q_in v 97 122))] ([]) := by
  refine zMz (lv := [(0, .int v)]) (by decide) (Nat.le_of_ble_eq_true rfl) rfl (fun J hJ hR => ?_)
  refine z_iload_n hJ d_Mo_isLetter_0 0 rfl ?_
  refine z_bipush (v := 97) hJ d_Mo_isLetter_1 (by decide) ?_
  refine z_bipush (v := 122) hJ d_Mo_isLetter_3 (by decide) ?_
  refine z_callSi hJ m_Mo_in k_Mo_52 zL.nil d_Mo_isLetter_5 rfl rfl (Nat.le_of_ble_eq_true rfl) ⟨by decide, by decide⟩ ?_
  exact z_ri hR d_Mo_isLetter_8 rfl rfl
set_option maxRecDepth 100000 in
theorem m_Mo_isDigit {g : Nat → Nat → Nat} {v : Int32}  : zM g y_Mo_isDigit b_Mo_isDigit 1 (some .boolean) 1 [.int v] ([]) [.int (zB (q_in v 48 57))] ([]) := by
  refine zMz (lv := [(0, .int v)]) (by decide) (Nat.le_of_ble_eq_true rfl) rfl (fun J hJ hR => ?_)
  refine z_iload_n hJ d_Mo_isDigit_0 0 rfl ?_
  refine z_bipush (v := 48) hJ d_Mo_isDigit_1 (by decide) ?_
  refine z_bipush (v := 57) hJ d_Mo_isDigit_3 (by decide) ?_
  refine z_callSi hJ m_Mo_in k_Mo_52 zL.nil d_Mo_isDigit_5 rfl rfl (Nat.le_of_ble_eq_true rfl) ⟨by decide, by decide⟩ ?_
  exact z_ri hR d_Mo_isDigit_8 rfl rfl
set_option maxRecDepth 100000 in
theorem m_Tp_isLetter {g : Nat → Nat → Nat} {v : Int32}  : zM g y_Tp_isLetter b_Tp_isLetter 1 (some .boolean) 0 [.int v] ([]) [.int (zB (q_in v 97 122))] ([]) := by
  refine zMz (lv := [(0, .int v)]) (by decide) (Nat.le_of_ble_eq_true rfl) rfl (fun J hJ hR => ?_)
  refine z_iload_n hJ d_Tp_isLetter_0 0 rfl ?_
  refine z_bipush (v := 97) hJ d_Tp_isLetter_1 (by decide) ?_
  refine z_icmp_lt hJ d_Tp_isLetter_3 (fun c_3 => ?_) (fun c_3 => ?_)
  · skip
    refine z_iconst (v := 0) hJ d_Tp_isLetter_16 (by decide) ?_
    exact z_ri hR d_Tp_isLetter_17 (by simp [q_in, c_3]; try rfl) rfl
  · skip
    refine z_iload_n hJ d_Tp_isLetter_6 0 rfl ?_
    refine z_bipush (v := 122) hJ d_Tp_isLetter_7 (by decide) ?_
    refine z_icmp_gt hJ d_Tp_isLetter_9 (fun c_9 => ?_) (fun c_9 => ?_)
    · skip
      refine z_iconst (v := 0) hJ d_Tp_isLetter_16 (by decide) ?_
      exact z_ri hR d_Tp_isLetter_17 (by simp [q_in, c_3, c_9]; try rfl) rfl
    · skip
      refine z_iconst (v := 1) hJ d_Tp_isLetter_12 (by decide) ?_
      refine z_goto hJ d_Tp_isLetter_13 ?_
      exact z_ri hR d_Tp_isLetter_17 (by simp [q_in, c_3, c_9]; try rfl) rfl
set_option maxRecDepth 100000 in
theorem m_Tp_isDigit {g : Nat → Nat → Nat} {v : Int32}  : zM g y_Tp_isDigit b_Tp_isDigit 1 (some .boolean) 0 [.int v] ([]) [.int (zB (q_in v 48 57))] ([]) := by
  refine zMz (lv := [(0, .int v)]) (by decide) (Nat.le_of_ble_eq_true rfl) rfl (fun J hJ hR => ?_)
  refine z_iload_n hJ d_Tp_isDigit_0 0 rfl ?_
  refine z_bipush (v := 48) hJ d_Tp_isDigit_1 (by decide) ?_
  refine z_icmp_lt hJ d_Tp_isDigit_3 (fun c_3 => ?_) (fun c_3 => ?_)
  · skip
    refine z_iconst (v := 0) hJ d_Tp_isDigit_16 (by decide) ?_
    exact z_ri hR d_Tp_isDigit_17 (by simp [q_in, c_3]; try rfl) rfl
  · skip
    refine z_iload_n hJ d_Tp_isDigit_6 0 rfl ?_
    refine z_bipush (v := 57) hJ d_Tp_isDigit_7 (by decide) ?_
    refine z_icmp_gt hJ d_Tp_isDigit_9 (fun c_9 => ?_) (fun c_9 => ?_)
    · skip
      refine z_iconst (v := 0) hJ d_Tp_isDigit_16 (by decide) ?_
      exact z_ri hR d_Tp_isDigit_17 (by simp [q_in, c_3, c_9]; try rfl) rfl
    · skip
      refine z_iconst (v := 1) hJ d_Tp_isDigit_12 (by decide) ?_
      refine z_goto hJ d_Tp_isDigit_13 ?_
      exact z_ri hR d_Tp_isDigit_17 (by simp [q_in, c_3, c_9]; try rfl) rfl
set_option maxRecDepth 100000 in
theorem m_Sx_has {g : Nat → Nat → Nat} {a j : Nat} (ha : a < 2 ^ 31) (hj : j < 31) : zM g y_Sx_has b_Sx_has 2 (some .boolean) 0 [.int (nI a), .int (nI j)] ([]) [.int (zB (a.testBit j))] ([]) := by
  refine zMz (lv := [(0, .int (nI a)), (1, .int (nI j))]) (by decide) (Nat.le_of_ble_eq_true rfl) rfl (fun J hJ hR => ?_)
  refine z_iload_n hJ d_Sx_has_0 0 rfl ?_
  refine z_iload_n hJ d_Sx_has_1 1 rfl ?_
  refine z_ishr hJ d_Sx_has_2 ?_
  refine z_iconst (v := 1) hJ d_Sx_has_3 (by decide) ?_
  refine z_iand hJ d_Sx_has_4 ?_
  refine z_iconst (v := 1) hJ d_Sx_has_5 (by decide) ?_
  refine z_icmp_ne hJ d_Sx_has_6 (fun c_6 => ?_) (fun c_6 => ?_)
  · skip
    refine z_iconst (v := 0) hJ d_Sx_has_13 (by decide) ?_
    exact z_ri hR d_Sx_has_14 (by have h := zhas ha hj; simp [h] at *; simp [*]; try rfl) rfl
  · skip
    refine z_iconst (v := 1) hJ d_Sx_has_9 (by decide) ?_
    refine z_goto hJ d_Sx_has_10 ?_
    exact z_ri hR d_Sx_has_14 (by have h := zhas ha hj; simp [h] at *; simp [*]; try rfl) rfl
set_option maxRecDepth 100000 in
theorem m_Mo_has {g : Nat → Nat → Nat} {a j : Nat} (ha : a < 2 ^ 31) (hj : j < 31) : zM g y_Mo_has b_Mo_has 2 (some .boolean) 0 [.int (nI a), .int (nI j)] ([]) [.int (zB (a.testBit j))] ([]) := by
  refine zMz (lv := [(0, .int (nI a)), (1, .int (nI j))]) (by decide) (Nat.le_of_ble_eq_true rfl) rfl (fun J hJ hR => ?_)
  refine z_iload_n hJ d_Mo_has_0 0 rfl ?_
  refine z_iload_n hJ d_Mo_has_1 1 rfl ?_
  refine z_ishr hJ d_Mo_has_2 ?_
  refine z_iconst (v := 1) hJ d_Mo_has_3 (by decide) ?_
  refine z_iand hJ d_Mo_has_4 ?_
  refine z_iconst (v := 1) hJ d_Mo_has_5 (by decide) ?_
  refine z_icmp_ne hJ d_Mo_has_6 (fun c_6 => ?_) (fun c_6 => ?_)
  · skip
    refine z_iconst (v := 0) hJ d_Mo_has_13 (by decide) ?_
    exact z_ri hR d_Mo_has_14 (by have h := zhas ha hj; simp [h] at *; simp [*]; try rfl) rfl
  · skip
    refine z_iconst (v := 1) hJ d_Mo_has_9 (by decide) ?_
    refine z_goto hJ d_Mo_has_10 ?_
    exact z_ri hR d_Mo_has_14 (by have h := zhas ha hj; simp [h] at *; simp [*]; try rfl) rfl
set_option maxRecDepth 100000 in
theorem m_Sx_paceOf {g : Nat → Nat → Nat} {k : Int32}  : zM g y_Sx_paceOf b_Sx_paceOf 1 (some .int) 0 [.int k] ([]) [.int (q_pace k)] ([]) := by
  refine zMi (lv := [(0, .int k)]) (by decide) (Nat.le_of_ble_eq_true rfl) rfl (fun J hJ hR => ?_)
  refine z_iload_n hJ d_Sx_paceOf_0 0 rfl ?_
  refine z_iconst (v := 1) hJ d_Sx_paceOf_1 (by decide) ?_
  refine z_icmp_ne hJ d_Sx_paceOf_2 (fun c_2 => ?_) (fun c_2 => ?_)
  · skip
    refine z_iload_n hJ d_Sx_paceOf_9 0 rfl ?_
    refine z_iconst (v := 4) hJ d_Sx_paceOf_10 (by decide) ?_
    refine z_icmp_ne hJ d_Sx_paceOf_11 (fun c_11 => ?_) (fun c_11 => ?_)
    · skip
      refine z_iconst (v := 1) hJ d_Sx_paceOf_19 (by decide) ?_
      exact z_ri hR d_Sx_paceOf_20 (by simp [q_pace, c_2, c_11]; try rfl) rfl
    · skip
      refine z_bipush (v := 6) hJ d_Sx_paceOf_14 (by decide) ?_
      refine z_goto hJ d_Sx_paceOf_16 ?_
      exact z_ri hR d_Sx_paceOf_20 (by simp [q_pace, c_2, c_11]; try rfl) rfl
  · skip
    refine z_iconst (v := 3) hJ d_Sx_paceOf_5 (by decide) ?_
    refine z_goto hJ d_Sx_paceOf_6 ?_
    exact z_ri hR d_Sx_paceOf_20 (by simp [q_pace, c_2]; try rfl) rfl
set_option maxRecDepth 100000 in
theorem m_Sx_spoilerOf {g : Nat → Nat → Nat} {k : Int32}  : zM g y_Sx_spoilerOf b_Sx_spoilerOf 1 (some .int) 0 [.int k] ([]) [.int (q_spo k)] ([]) := by
  refine zMi (lv := [(0, .int k)]) (by decide) (Nat.le_of_ble_eq_true rfl) rfl (fun J hJ hR => ?_)
  refine z_iload_n hJ d_Sx_spoilerOf_0 0 rfl ?_
  refine z_sw (tgt := 38) [(1, 34), (2, 32), (3, 38), (4, 36)] hJ d_Sx_spoilerOf_1 (by decide) (by decide) ?_ (fun c_1 => ?_)
  · intro q hq e
    simp only [List.mem_cons, List.not_mem_nil, or_false] at hq
    rcases hq with rfl | rfl | rfl | rfl
    · have c_1 := e.trans (show Int32.ofInt 1 = 1 by decide)
      refine z_iconst (v := 5) hJ d_Sx_spoilerOf_34 (by decide) ?_
      exact z_ri hR d_Sx_spoilerOf_35 (by simp [q_spo, c_1]; try rfl) rfl
    · have c_1 := e.trans (show Int32.ofInt 2 = 2 by decide)
      refine z_iconst (v := 3) hJ d_Sx_spoilerOf_32 (by decide) ?_
      exact z_ri hR d_Sx_spoilerOf_33 (by simp [q_spo, c_1]; try rfl) rfl
    · have c_1 := e.trans (show Int32.ofInt 3 = 3 by decide)
      refine z_iconst (v := (-1)) hJ d_Sx_spoilerOf_38 (by decide) ?_
      exact z_ri hR d_Sx_spoilerOf_39 (by simp [q_spo, c_1]; try rfl) rfl
    · have c_1 := e.trans (show Int32.ofInt 4 = 4 by decide)
      refine z_iconst (v := 5) hJ d_Sx_spoilerOf_36 (by decide) ?_
      exact z_ri hR d_Sx_spoilerOf_37 (by simp [q_spo, c_1]; try rfl) rfl
  · skip
    refine z_iconst (v := (-1)) hJ d_Sx_spoilerOf_38 (by decide) ?_
    exact z_ri hR d_Sx_spoilerOf_39 (by
      have h1 : ¬ k = 1 := fun e => by rw [e] at c_1; exact absurd c_1 (by decide)
      have h2 : ¬ k = 2 := fun e => by rw [e] at c_1; exact absurd c_1 (by decide)
      have h4 : ¬ k = 4 := fun e => by rw [e] at c_1; exact absurd c_1 (by decide)
      simp [q_spo, h1, h2, h4]) rfl
set_option maxRecDepth 100000 in
theorem m_Sx_workOf {g : Nat → Nat → Nat} {k so sk : Int32}  : zM g y_Sx_workOf b_Sx_workOf 3 (some .int) 0 [.int k, .int so, .int sk] ([]) [.int (q_work k so sk)] ([]) := by
  refine zMi (lv := [(0, .int k), (1, .int so), (2, .int sk)]) (by decide) (Nat.le_of_ble_eq_true rfl) rfl (fun J hJ hR => ?_)
  refine z_iload_n hJ d_Sx_workOf_0 1 rfl ?_
  refine z_sw (tgt := 131) [(0, 36), (1, 62), (2, 76), (3, 104), (4, 118)] hJ d_Sx_workOf_1 (by decide) (by decide) ?_ (fun c_1 => ?_)
  · intro q hq e
    simp only [List.mem_cons, List.not_mem_nil, or_false] at hq
    rcases hq with rfl | rfl | rfl | rfl | rfl
    · have c_1 := e.trans (show Int32.ofInt 0 = 0 by decide)
      refine z_iload_n hJ d_Sx_workOf_36 0 rfl ?_
      refine z_iconst (v := 1) hJ d_Sx_workOf_37 (by decide) ?_
      refine z_icmp_ne hJ d_Sx_workOf_38 (fun c_38 => ?_) (fun c_38 => ?_)
      · skip
        refine z_iload_n hJ d_Sx_workOf_47 0 rfl ?_
        refine z_iconst (v := 4) hJ d_Sx_workOf_48 (by decide) ?_
        refine z_icmp_ne hJ d_Sx_workOf_49 (fun c_49 => ?_) (fun c_49 => ?_)
        · skip
          refine z_iconst (v := 1) hJ d_Sx_workOf_60 (by decide) ?_
          exact z_ri hR d_Sx_workOf_61 (by simp [q_work, c_1, c_38, c_49]; try rfl) rfl
        · skip
          refine z_iconst (v := 2) hJ d_Sx_workOf_52 (by decide) ?_
          refine z_iconst (v := 5) hJ d_Sx_workOf_53 (by decide) ?_
          refine z_iload_n hJ d_Sx_workOf_54 2 rfl ?_
          refine z_imul hJ d_Sx_workOf_55 ?_
          refine z_imul hJ d_Sx_workOf_56 ?_
          refine z_goto hJ d_Sx_workOf_57 ?_
          exact z_ri hR d_Sx_workOf_61 (by simp [q_work, c_1, c_38, c_49]; try rfl) rfl
      · skip
        refine z_iconst (v := 5) hJ d_Sx_workOf_41 (by decide) ?_
        refine z_iload_n hJ d_Sx_workOf_42 2 rfl ?_
        refine z_imul hJ d_Sx_workOf_43 ?_
        refine z_goto hJ d_Sx_workOf_44 ?_
        exact z_ri hR d_Sx_workOf_61 (by simp [q_work, c_1, c_38]; try rfl) rfl
    · have c_1 := e.trans (show Int32.ofInt 1 = 1 by decide)
      refine z_iload_n hJ d_Sx_workOf_62 0 rfl ?_
      refine z_iconst (v := 2) hJ d_Sx_workOf_63 (by decide) ?_
      refine z_icmp_ne hJ d_Sx_workOf_64 (fun c_64 => ?_) (fun c_64 => ?_)
      · skip
        refine z_iconst (v := 1) hJ d_Sx_workOf_74 (by decide) ?_
        exact z_ri hR d_Sx_workOf_75 (by simp [q_work, c_1, c_64]; try rfl) rfl
      · skip
        refine z_bipush (v := 6) hJ d_Sx_workOf_67 (by decide) ?_
        refine z_iload_n hJ d_Sx_workOf_69 2 rfl ?_
        refine z_imul hJ d_Sx_workOf_70 ?_
        refine z_goto hJ d_Sx_workOf_71 ?_
        exact z_ri hR d_Sx_workOf_75 (by simp [q_work, c_1, c_64]; try rfl) rfl
    · have c_1 := e.trans (show Int32.ofInt 2 = 2 by decide)
      refine z_iload_n hJ d_Sx_workOf_76 0 rfl ?_
      refine z_iconst (v := 3) hJ d_Sx_workOf_77 (by decide) ?_
      refine z_icmp_ne hJ d_Sx_workOf_78 (fun c_78 => ?_) (fun c_78 => ?_)
      · skip
        refine z_iload_n hJ d_Sx_workOf_88 0 rfl ?_
        refine z_iconst (v := 5) hJ d_Sx_workOf_89 (by decide) ?_
        refine z_icmp_ne hJ d_Sx_workOf_90 (fun c_90 => ?_) (fun c_90 => ?_)
        · skip
          refine z_iconst (v := 1) hJ d_Sx_workOf_102 (by decide) ?_
          exact z_ri hR d_Sx_workOf_103 (by simp [q_work, c_1, c_78, c_90]; try rfl) rfl
        · skip
          refine z_bipush (v := 7) hJ d_Sx_workOf_93 (by decide) ?_
          refine z_iload_n hJ d_Sx_workOf_95 2 rfl ?_
          refine z_imul hJ d_Sx_workOf_96 ?_
          refine z_iconst (v := 2) hJ d_Sx_workOf_97 (by decide) ?_
          refine z_idiv hJ d_Sx_workOf_98 (by decide) ?_
          refine z_goto hJ d_Sx_workOf_99 ?_
          exact z_ri hR d_Sx_workOf_103 (by simp [q_work, c_1, c_78, c_90]; try rfl) rfl
      · skip
        refine z_bipush (v := 7) hJ d_Sx_workOf_81 (by decide) ?_
        refine z_iload_n hJ d_Sx_workOf_83 2 rfl ?_
        refine z_imul hJ d_Sx_workOf_84 ?_
        refine z_goto hJ d_Sx_workOf_85 ?_
        exact z_ri hR d_Sx_workOf_103 (by simp [q_work, c_1, c_78]; try rfl) rfl
    · have c_1 := e.trans (show Int32.ofInt 3 = 3 by decide)
      refine z_iload_n hJ d_Sx_workOf_104 0 rfl ?_
      refine z_iconst (v := 5) hJ d_Sx_workOf_105 (by decide) ?_
      refine z_icmp_ne hJ d_Sx_workOf_106 (fun c_106 => ?_) (fun c_106 => ?_)
      · skip
        refine z_iconst (v := 1) hJ d_Sx_workOf_116 (by decide) ?_
        exact z_ri hR d_Sx_workOf_117 (by simp [q_work, c_1, c_106]; try rfl) rfl
      · skip
        refine z_bipush (v := 8) hJ d_Sx_workOf_109 (by decide) ?_
        refine z_iload_n hJ d_Sx_workOf_111 2 rfl ?_
        refine z_imul hJ d_Sx_workOf_112 ?_
        refine z_goto hJ d_Sx_workOf_113 ?_
        exact z_ri hR d_Sx_workOf_117 (by simp [q_work, c_1, c_106]; try rfl) rfl
    · have c_1 := e.trans (show Int32.ofInt 4 = 4 by decide)
      refine z_iload_n hJ d_Sx_workOf_118 0 rfl ?_
      refine z_iconst (v := 4) hJ d_Sx_workOf_119 (by decide) ?_
      refine z_icmp_ne hJ d_Sx_workOf_120 (fun c_120 => ?_) (fun c_120 => ?_)
      · skip
        refine z_iconst (v := 2) hJ d_Sx_workOf_127 (by decide) ?_
        refine z_iload_n hJ d_Sx_workOf_128 2 rfl ?_
        refine z_imul hJ d_Sx_workOf_129 ?_
        exact z_ri hR d_Sx_workOf_130 (by simp [q_work, c_1, c_120]; try rfl) rfl
      · skip
        refine z_iconst (v := 0) hJ d_Sx_workOf_123 (by decide) ?_
        refine z_goto hJ d_Sx_workOf_124 ?_
        exact z_ri hR d_Sx_workOf_130 (by simp [q_work, c_1, c_120]; try rfl) rfl
  · skip
    refine z_iconst (v := 0) hJ d_Sx_workOf_131 (by decide) ?_
    exact z_ri hR d_Sx_workOf_132 (by
      have h0 : ¬ so = 0 := fun e => by rw [e] at c_1; exact absurd c_1 (by decide)
      have h1 : ¬ so = 1 := fun e => by rw [e] at c_1; exact absurd c_1 (by decide)
      have h2 : ¬ so = 2 := fun e => by rw [e] at c_1; exact absurd c_1 (by decide)
      have h3 : ¬ so = 3 := fun e => by rw [e] at c_1; exact absurd c_1 (by decide)
      have h4 : ¬ so = 4 := fun e => by rw [e] at c_1; exact absurd c_1 (by decide)
      simp [q_work, h0, h1, h2, h3, h4]) rfl
set_option maxRecDepth 100000 in
theorem m_Sx_isOfKind {g : Nat → Nat → Nat} {k w : Int32}  : zM g y_Sx_isOfKind b_Sx_isOfKind 4 (some .boolean) 0 [.int k, .int w] ([]) [.int (zB (q_of k w))] ([]) := by
  refine zMz (lv := [(0, .int k), (1, .int w)]) (by decide) (Nat.le_of_ble_eq_true rfl) rfl (fun J hJ hR => ?_)
  rcases zk6 k with rfl | rfl | rfl | rfl | rfl | rfl | hk
  · skip
    refine z_iload_n hJ d_Sx_isOfKind_0 0 rfl ?_
    refine z_istore_n (lv' := [(0, _), (1, _), (2, _)]) hJ d_Sx_isOfKind_1 (by decide) rfl ?_
    refine z_iconst (v := 0) hJ d_Sx_isOfKind_2 (by decide) ?_
    refine z_istore_n (lv' := [(0, _), (1, _), (2, _), (3, _)]) hJ d_Sx_isOfKind_3 (by decide) rfl ?_
    refine z_iload_n hJ d_Sx_isOfKind_4 3 rfl ?_
    refine z_bipush (v := 6) hJ d_Sx_isOfKind_5 (by decide) ?_
    refine z_icmp_ge hJ d_Sx_isOfKind_7 (fun c => absurd c (by decide)) (fun _ => ?_)
    refine z_iload_n hJ d_Sx_isOfKind_10 2 rfl ?_
    refine z_if_lt hJ d_Sx_isOfKind_11 (fun c => absurd c (by decide)) (fun _ => ?_)
    refine z_iload_n hJ d_Sx_isOfKind_14 2 rfl ?_
    refine z_bipush (v := 6) hJ d_Sx_isOfKind_15 (by decide) ?_
    refine z_icmp_ge hJ d_Sx_isOfKind_17 (fun c => absurd c (by decide)) (fun _ => ?_)
    refine z_iload_n hJ d_Sx_isOfKind_20 2 rfl ?_
    refine z_iload_n hJ d_Sx_isOfKind_21 1 rfl ?_
    refine z_icmp_ne hJ d_Sx_isOfKind_22 (fun c_22 => ?_) (fun c_22 => ?_)
    · skip
      refine z_gs3 hJ d_Sx_isOfKind_27 f_Sx_279 ?_
      refine z_iload_n hJ d_Sx_isOfKind_30 2 rfl ?_
      refine z_ti3 hJ d_Sx_isOfKind_31 0 rfl (by decide) ?_
      refine z_c (y := (-1)) rfl ?_
      refine z_istore_n (lv' := [(0, _), (1, _), (2, _), (3, _)]) hJ d_Sx_isOfKind_32 (by decide) rfl ?_
      refine z_iinc (v := 1) (lv' := [(0, _), (1, _), (2, _), (3, _)]) hJ d_Sx_isOfKind_33 3 rfl (by decide) (by decide) rfl ?_
      refine z_goto hJ d_Sx_isOfKind_36 ?_
      refine z_iload_n hJ d_Sx_isOfKind_4 3 rfl ?_
      refine z_bipush (v := 6) hJ d_Sx_isOfKind_5 (by decide) ?_
      refine z_icmp_ge hJ d_Sx_isOfKind_7 (fun c => absurd c (by decide)) (fun _ => ?_)
      refine z_iload_n hJ d_Sx_isOfKind_10 2 rfl ?_
      refine z_if_lt hJ d_Sx_isOfKind_11 (fun _ => ?_) (fun c => absurd c (by decide))
      refine z_iconst (v := 0) hJ d_Sx_isOfKind_39 (by decide) ?_
      exact z_ri hR d_Sx_isOfKind_40 (by simp [q_of, c_22]; try rfl) rfl
    · skip
      refine z_iconst (v := 1) hJ d_Sx_isOfKind_25 (by decide) ?_
      exact z_ri hR d_Sx_isOfKind_26 (by subst c_22; rfl) rfl
  · skip
    refine z_iload_n hJ d_Sx_isOfKind_0 0 rfl ?_
    refine z_istore_n (lv' := [(0, _), (1, _), (2, _)]) hJ d_Sx_isOfKind_1 (by decide) rfl ?_
    refine z_iconst (v := 0) hJ d_Sx_isOfKind_2 (by decide) ?_
    refine z_istore_n (lv' := [(0, _), (1, _), (2, _), (3, _)]) hJ d_Sx_isOfKind_3 (by decide) rfl ?_
    refine z_iload_n hJ d_Sx_isOfKind_4 3 rfl ?_
    refine z_bipush (v := 6) hJ d_Sx_isOfKind_5 (by decide) ?_
    refine z_icmp_ge hJ d_Sx_isOfKind_7 (fun c => absurd c (by decide)) (fun _ => ?_)
    refine z_iload_n hJ d_Sx_isOfKind_10 2 rfl ?_
    refine z_if_lt hJ d_Sx_isOfKind_11 (fun c => absurd c (by decide)) (fun _ => ?_)
    refine z_iload_n hJ d_Sx_isOfKind_14 2 rfl ?_
    refine z_bipush (v := 6) hJ d_Sx_isOfKind_15 (by decide) ?_
    refine z_icmp_ge hJ d_Sx_isOfKind_17 (fun c => absurd c (by decide)) (fun _ => ?_)
    refine z_iload_n hJ d_Sx_isOfKind_20 2 rfl ?_
    refine z_iload_n hJ d_Sx_isOfKind_21 1 rfl ?_
    refine z_icmp_ne hJ d_Sx_isOfKind_22 (fun c_22 => ?_) (fun c_22 => ?_)
    · skip
      refine z_gs3 hJ d_Sx_isOfKind_27 f_Sx_279 ?_
      refine z_iload_n hJ d_Sx_isOfKind_30 2 rfl ?_
      refine z_ti3 hJ d_Sx_isOfKind_31 1 rfl (by decide) ?_
      refine z_c (y := 0) rfl ?_
      refine z_istore_n (lv' := [(0, _), (1, _), (2, _), (3, _)]) hJ d_Sx_isOfKind_32 (by decide) rfl ?_
      refine z_iinc (v := 1) (lv' := [(0, _), (1, _), (2, _), (3, _)]) hJ d_Sx_isOfKind_33 3 rfl (by decide) (by decide) rfl ?_
      refine z_goto hJ d_Sx_isOfKind_36 ?_
      refine z_iload_n hJ d_Sx_isOfKind_4 3 rfl ?_
      refine z_bipush (v := 6) hJ d_Sx_isOfKind_5 (by decide) ?_
      refine z_icmp_ge hJ d_Sx_isOfKind_7 (fun c => absurd c (by decide)) (fun _ => ?_)
      refine z_iload_n hJ d_Sx_isOfKind_10 2 rfl ?_
      refine z_if_lt hJ d_Sx_isOfKind_11 (fun c => absurd c (by decide)) (fun _ => ?_)
      refine z_iload_n hJ d_Sx_isOfKind_14 2 rfl ?_
      refine z_bipush (v := 6) hJ d_Sx_isOfKind_15 (by decide) ?_
      refine z_icmp_ge hJ d_Sx_isOfKind_17 (fun c => absurd c (by decide)) (fun _ => ?_)
      refine z_iload_n hJ d_Sx_isOfKind_20 2 rfl ?_
      refine z_iload_n hJ d_Sx_isOfKind_21 1 rfl ?_
      refine z_icmp_ne hJ d_Sx_isOfKind_22 (fun c_22_1 => ?_) (fun c_22_1 => ?_)
      · skip
        refine z_gs3 hJ d_Sx_isOfKind_27 f_Sx_279 ?_
        refine z_iload_n hJ d_Sx_isOfKind_30 2 rfl ?_
        refine z_ti3 hJ d_Sx_isOfKind_31 0 rfl (by decide) ?_
        refine z_c (y := (-1)) rfl ?_
        refine z_istore_n (lv' := [(0, _), (1, _), (2, _), (3, _)]) hJ d_Sx_isOfKind_32 (by decide) rfl ?_
        refine z_iinc (v := 2) (lv' := [(0, _), (1, _), (2, _), (3, _)]) hJ d_Sx_isOfKind_33 3 rfl (by decide) (by decide) rfl ?_
        refine z_goto hJ d_Sx_isOfKind_36 ?_
        refine z_iload_n hJ d_Sx_isOfKind_4 3 rfl ?_
        refine z_bipush (v := 6) hJ d_Sx_isOfKind_5 (by decide) ?_
        refine z_icmp_ge hJ d_Sx_isOfKind_7 (fun c => absurd c (by decide)) (fun _ => ?_)
        refine z_iload_n hJ d_Sx_isOfKind_10 2 rfl ?_
        refine z_if_lt hJ d_Sx_isOfKind_11 (fun _ => ?_) (fun c => absurd c (by decide))
        refine z_iconst (v := 0) hJ d_Sx_isOfKind_39 (by decide) ?_
        exact z_ri hR d_Sx_isOfKind_40 (by simp [q_of, c_22, c_22_1]; try rfl) rfl
      · skip
        refine z_iconst (v := 1) hJ d_Sx_isOfKind_25 (by decide) ?_
        exact z_ri hR d_Sx_isOfKind_26 (by subst c_22_1; rfl) rfl
    · skip
      refine z_iconst (v := 1) hJ d_Sx_isOfKind_25 (by decide) ?_
      exact z_ri hR d_Sx_isOfKind_26 (by subst c_22; rfl) rfl
  · skip
    refine z_iload_n hJ d_Sx_isOfKind_0 0 rfl ?_
    refine z_istore_n (lv' := [(0, _), (1, _), (2, _)]) hJ d_Sx_isOfKind_1 (by decide) rfl ?_
    refine z_iconst (v := 0) hJ d_Sx_isOfKind_2 (by decide) ?_
    refine z_istore_n (lv' := [(0, _), (1, _), (2, _), (3, _)]) hJ d_Sx_isOfKind_3 (by decide) rfl ?_
    refine z_iload_n hJ d_Sx_isOfKind_4 3 rfl ?_
    refine z_bipush (v := 6) hJ d_Sx_isOfKind_5 (by decide) ?_
    refine z_icmp_ge hJ d_Sx_isOfKind_7 (fun c => absurd c (by decide)) (fun _ => ?_)
    refine z_iload_n hJ d_Sx_isOfKind_10 2 rfl ?_
    refine z_if_lt hJ d_Sx_isOfKind_11 (fun c => absurd c (by decide)) (fun _ => ?_)
    refine z_iload_n hJ d_Sx_isOfKind_14 2 rfl ?_
    refine z_bipush (v := 6) hJ d_Sx_isOfKind_15 (by decide) ?_
    refine z_icmp_ge hJ d_Sx_isOfKind_17 (fun c => absurd c (by decide)) (fun _ => ?_)
    refine z_iload_n hJ d_Sx_isOfKind_20 2 rfl ?_
    refine z_iload_n hJ d_Sx_isOfKind_21 1 rfl ?_
    refine z_icmp_ne hJ d_Sx_isOfKind_22 (fun c_22 => ?_) (fun c_22 => ?_)
    · skip
      refine z_gs3 hJ d_Sx_isOfKind_27 f_Sx_279 ?_
      refine z_iload_n hJ d_Sx_isOfKind_30 2 rfl ?_
      refine z_ti3 hJ d_Sx_isOfKind_31 2 rfl (by decide) ?_
      refine z_c (y := 0) rfl ?_
      refine z_istore_n (lv' := [(0, _), (1, _), (2, _), (3, _)]) hJ d_Sx_isOfKind_32 (by decide) rfl ?_
      refine z_iinc (v := 1) (lv' := [(0, _), (1, _), (2, _), (3, _)]) hJ d_Sx_isOfKind_33 3 rfl (by decide) (by decide) rfl ?_
      refine z_goto hJ d_Sx_isOfKind_36 ?_
      refine z_iload_n hJ d_Sx_isOfKind_4 3 rfl ?_
      refine z_bipush (v := 6) hJ d_Sx_isOfKind_5 (by decide) ?_
      refine z_icmp_ge hJ d_Sx_isOfKind_7 (fun c => absurd c (by decide)) (fun _ => ?_)
      refine z_iload_n hJ d_Sx_isOfKind_10 2 rfl ?_
      refine z_if_lt hJ d_Sx_isOfKind_11 (fun c => absurd c (by decide)) (fun _ => ?_)
      refine z_iload_n hJ d_Sx_isOfKind_14 2 rfl ?_
      refine z_bipush (v := 6) hJ d_Sx_isOfKind_15 (by decide) ?_
      refine z_icmp_ge hJ d_Sx_isOfKind_17 (fun c => absurd c (by decide)) (fun _ => ?_)
      refine z_iload_n hJ d_Sx_isOfKind_20 2 rfl ?_
      refine z_iload_n hJ d_Sx_isOfKind_21 1 rfl ?_
      refine z_icmp_ne hJ d_Sx_isOfKind_22 (fun c_22_1 => ?_) (fun c_22_1 => ?_)
      · skip
        refine z_gs3 hJ d_Sx_isOfKind_27 f_Sx_279 ?_
        refine z_iload_n hJ d_Sx_isOfKind_30 2 rfl ?_
        refine z_ti3 hJ d_Sx_isOfKind_31 0 rfl (by decide) ?_
        refine z_c (y := (-1)) rfl ?_
        refine z_istore_n (lv' := [(0, _), (1, _), (2, _), (3, _)]) hJ d_Sx_isOfKind_32 (by decide) rfl ?_
        refine z_iinc (v := 2) (lv' := [(0, _), (1, _), (2, _), (3, _)]) hJ d_Sx_isOfKind_33 3 rfl (by decide) (by decide) rfl ?_
        refine z_goto hJ d_Sx_isOfKind_36 ?_
        refine z_iload_n hJ d_Sx_isOfKind_4 3 rfl ?_
        refine z_bipush (v := 6) hJ d_Sx_isOfKind_5 (by decide) ?_
        refine z_icmp_ge hJ d_Sx_isOfKind_7 (fun c => absurd c (by decide)) (fun _ => ?_)
        refine z_iload_n hJ d_Sx_isOfKind_10 2 rfl ?_
        refine z_if_lt hJ d_Sx_isOfKind_11 (fun _ => ?_) (fun c => absurd c (by decide))
        refine z_iconst (v := 0) hJ d_Sx_isOfKind_39 (by decide) ?_
        exact z_ri hR d_Sx_isOfKind_40 (by simp [q_of, c_22, c_22_1]; try rfl) rfl
      · skip
        refine z_iconst (v := 1) hJ d_Sx_isOfKind_25 (by decide) ?_
        exact z_ri hR d_Sx_isOfKind_26 (by subst c_22_1; rfl) rfl
    · skip
      refine z_iconst (v := 1) hJ d_Sx_isOfKind_25 (by decide) ?_
      exact z_ri hR d_Sx_isOfKind_26 (by subst c_22; rfl) rfl
  · skip
    refine z_iload_n hJ d_Sx_isOfKind_0 0 rfl ?_
    refine z_istore_n (lv' := [(0, _), (1, _), (2, _)]) hJ d_Sx_isOfKind_1 (by decide) rfl ?_
    refine z_iconst (v := 0) hJ d_Sx_isOfKind_2 (by decide) ?_
    refine z_istore_n (lv' := [(0, _), (1, _), (2, _), (3, _)]) hJ d_Sx_isOfKind_3 (by decide) rfl ?_
    refine z_iload_n hJ d_Sx_isOfKind_4 3 rfl ?_
    refine z_bipush (v := 6) hJ d_Sx_isOfKind_5 (by decide) ?_
    refine z_icmp_ge hJ d_Sx_isOfKind_7 (fun c => absurd c (by decide)) (fun _ => ?_)
    refine z_iload_n hJ d_Sx_isOfKind_10 2 rfl ?_
    refine z_if_lt hJ d_Sx_isOfKind_11 (fun c => absurd c (by decide)) (fun _ => ?_)
    refine z_iload_n hJ d_Sx_isOfKind_14 2 rfl ?_
    refine z_bipush (v := 6) hJ d_Sx_isOfKind_15 (by decide) ?_
    refine z_icmp_ge hJ d_Sx_isOfKind_17 (fun c => absurd c (by decide)) (fun _ => ?_)
    refine z_iload_n hJ d_Sx_isOfKind_20 2 rfl ?_
    refine z_iload_n hJ d_Sx_isOfKind_21 1 rfl ?_
    refine z_icmp_ne hJ d_Sx_isOfKind_22 (fun c_22 => ?_) (fun c_22 => ?_)
    · skip
      refine z_gs3 hJ d_Sx_isOfKind_27 f_Sx_279 ?_
      refine z_iload_n hJ d_Sx_isOfKind_30 2 rfl ?_
      refine z_ti3 hJ d_Sx_isOfKind_31 3 rfl (by decide) ?_
      refine z_c (y := 0) rfl ?_
      refine z_istore_n (lv' := [(0, _), (1, _), (2, _), (3, _)]) hJ d_Sx_isOfKind_32 (by decide) rfl ?_
      refine z_iinc (v := 1) (lv' := [(0, _), (1, _), (2, _), (3, _)]) hJ d_Sx_isOfKind_33 3 rfl (by decide) (by decide) rfl ?_
      refine z_goto hJ d_Sx_isOfKind_36 ?_
      refine z_iload_n hJ d_Sx_isOfKind_4 3 rfl ?_
      refine z_bipush (v := 6) hJ d_Sx_isOfKind_5 (by decide) ?_
      refine z_icmp_ge hJ d_Sx_isOfKind_7 (fun c => absurd c (by decide)) (fun _ => ?_)
      refine z_iload_n hJ d_Sx_isOfKind_10 2 rfl ?_
      refine z_if_lt hJ d_Sx_isOfKind_11 (fun c => absurd c (by decide)) (fun _ => ?_)
      refine z_iload_n hJ d_Sx_isOfKind_14 2 rfl ?_
      refine z_bipush (v := 6) hJ d_Sx_isOfKind_15 (by decide) ?_
      refine z_icmp_ge hJ d_Sx_isOfKind_17 (fun c => absurd c (by decide)) (fun _ => ?_)
      refine z_iload_n hJ d_Sx_isOfKind_20 2 rfl ?_
      refine z_iload_n hJ d_Sx_isOfKind_21 1 rfl ?_
      refine z_icmp_ne hJ d_Sx_isOfKind_22 (fun c_22_1 => ?_) (fun c_22_1 => ?_)
      · skip
        refine z_gs3 hJ d_Sx_isOfKind_27 f_Sx_279 ?_
        refine z_iload_n hJ d_Sx_isOfKind_30 2 rfl ?_
        refine z_ti3 hJ d_Sx_isOfKind_31 0 rfl (by decide) ?_
        refine z_c (y := (-1)) rfl ?_
        refine z_istore_n (lv' := [(0, _), (1, _), (2, _), (3, _)]) hJ d_Sx_isOfKind_32 (by decide) rfl ?_
        refine z_iinc (v := 2) (lv' := [(0, _), (1, _), (2, _), (3, _)]) hJ d_Sx_isOfKind_33 3 rfl (by decide) (by decide) rfl ?_
        refine z_goto hJ d_Sx_isOfKind_36 ?_
        refine z_iload_n hJ d_Sx_isOfKind_4 3 rfl ?_
        refine z_bipush (v := 6) hJ d_Sx_isOfKind_5 (by decide) ?_
        refine z_icmp_ge hJ d_Sx_isOfKind_7 (fun c => absurd c (by decide)) (fun _ => ?_)
        refine z_iload_n hJ d_Sx_isOfKind_10 2 rfl ?_
        refine z_if_lt hJ d_Sx_isOfKind_11 (fun _ => ?_) (fun c => absurd c (by decide))
        refine z_iconst (v := 0) hJ d_Sx_isOfKind_39 (by decide) ?_
        exact z_ri hR d_Sx_isOfKind_40 (by simp [q_of, c_22, c_22_1]; try rfl) rfl
      · skip
        refine z_iconst (v := 1) hJ d_Sx_isOfKind_25 (by decide) ?_
        exact z_ri hR d_Sx_isOfKind_26 (by subst c_22_1; rfl) rfl
    · skip
      refine z_iconst (v := 1) hJ d_Sx_isOfKind_25 (by decide) ?_
      exact z_ri hR d_Sx_isOfKind_26 (by subst c_22; rfl) rfl
  · skip
    refine z_iload_n hJ d_Sx_isOfKind_0 0 rfl ?_
    refine z_istore_n (lv' := [(0, _), (1, _), (2, _)]) hJ d_Sx_isOfKind_1 (by decide) rfl ?_
    refine z_iconst (v := 0) hJ d_Sx_isOfKind_2 (by decide) ?_
    refine z_istore_n (lv' := [(0, _), (1, _), (2, _), (3, _)]) hJ d_Sx_isOfKind_3 (by decide) rfl ?_
    refine z_iload_n hJ d_Sx_isOfKind_4 3 rfl ?_
    refine z_bipush (v := 6) hJ d_Sx_isOfKind_5 (by decide) ?_
    refine z_icmp_ge hJ d_Sx_isOfKind_7 (fun c => absurd c (by decide)) (fun _ => ?_)
    refine z_iload_n hJ d_Sx_isOfKind_10 2 rfl ?_
    refine z_if_lt hJ d_Sx_isOfKind_11 (fun c => absurd c (by decide)) (fun _ => ?_)
    refine z_iload_n hJ d_Sx_isOfKind_14 2 rfl ?_
    refine z_bipush (v := 6) hJ d_Sx_isOfKind_15 (by decide) ?_
    refine z_icmp_ge hJ d_Sx_isOfKind_17 (fun c => absurd c (by decide)) (fun _ => ?_)
    refine z_iload_n hJ d_Sx_isOfKind_20 2 rfl ?_
    refine z_iload_n hJ d_Sx_isOfKind_21 1 rfl ?_
    refine z_icmp_ne hJ d_Sx_isOfKind_22 (fun c_22 => ?_) (fun c_22 => ?_)
    · skip
      refine z_gs3 hJ d_Sx_isOfKind_27 f_Sx_279 ?_
      refine z_iload_n hJ d_Sx_isOfKind_30 2 rfl ?_
      refine z_ti3 hJ d_Sx_isOfKind_31 4 rfl (by decide) ?_
      refine z_c (y := 1) rfl ?_
      refine z_istore_n (lv' := [(0, _), (1, _), (2, _), (3, _)]) hJ d_Sx_isOfKind_32 (by decide) rfl ?_
      refine z_iinc (v := 1) (lv' := [(0, _), (1, _), (2, _), (3, _)]) hJ d_Sx_isOfKind_33 3 rfl (by decide) (by decide) rfl ?_
      refine z_goto hJ d_Sx_isOfKind_36 ?_
      refine z_iload_n hJ d_Sx_isOfKind_4 3 rfl ?_
      refine z_bipush (v := 6) hJ d_Sx_isOfKind_5 (by decide) ?_
      refine z_icmp_ge hJ d_Sx_isOfKind_7 (fun c => absurd c (by decide)) (fun _ => ?_)
      refine z_iload_n hJ d_Sx_isOfKind_10 2 rfl ?_
      refine z_if_lt hJ d_Sx_isOfKind_11 (fun c => absurd c (by decide)) (fun _ => ?_)
      refine z_iload_n hJ d_Sx_isOfKind_14 2 rfl ?_
      refine z_bipush (v := 6) hJ d_Sx_isOfKind_15 (by decide) ?_
      refine z_icmp_ge hJ d_Sx_isOfKind_17 (fun c => absurd c (by decide)) (fun _ => ?_)
      refine z_iload_n hJ d_Sx_isOfKind_20 2 rfl ?_
      refine z_iload_n hJ d_Sx_isOfKind_21 1 rfl ?_
      refine z_icmp_ne hJ d_Sx_isOfKind_22 (fun c_22_1 => ?_) (fun c_22_1 => ?_)
      · skip
        refine z_gs3 hJ d_Sx_isOfKind_27 f_Sx_279 ?_
        refine z_iload_n hJ d_Sx_isOfKind_30 2 rfl ?_
        refine z_ti3 hJ d_Sx_isOfKind_31 1 rfl (by decide) ?_
        refine z_c (y := 0) rfl ?_
        refine z_istore_n (lv' := [(0, _), (1, _), (2, _), (3, _)]) hJ d_Sx_isOfKind_32 (by decide) rfl ?_
        refine z_iinc (v := 2) (lv' := [(0, _), (1, _), (2, _), (3, _)]) hJ d_Sx_isOfKind_33 3 rfl (by decide) (by decide) rfl ?_
        refine z_goto hJ d_Sx_isOfKind_36 ?_
        refine z_iload_n hJ d_Sx_isOfKind_4 3 rfl ?_
        refine z_bipush (v := 6) hJ d_Sx_isOfKind_5 (by decide) ?_
        refine z_icmp_ge hJ d_Sx_isOfKind_7 (fun c => absurd c (by decide)) (fun _ => ?_)
        refine z_iload_n hJ d_Sx_isOfKind_10 2 rfl ?_
        refine z_if_lt hJ d_Sx_isOfKind_11 (fun c => absurd c (by decide)) (fun _ => ?_)
        refine z_iload_n hJ d_Sx_isOfKind_14 2 rfl ?_
        refine z_bipush (v := 6) hJ d_Sx_isOfKind_15 (by decide) ?_
        refine z_icmp_ge hJ d_Sx_isOfKind_17 (fun c => absurd c (by decide)) (fun _ => ?_)
        refine z_iload_n hJ d_Sx_isOfKind_20 2 rfl ?_
        refine z_iload_n hJ d_Sx_isOfKind_21 1 rfl ?_
        refine z_icmp_ne hJ d_Sx_isOfKind_22 (fun c_22_2 => ?_) (fun c_22_2 => ?_)
        · skip
          refine z_gs3 hJ d_Sx_isOfKind_27 f_Sx_279 ?_
          refine z_iload_n hJ d_Sx_isOfKind_30 2 rfl ?_
          refine z_ti3 hJ d_Sx_isOfKind_31 0 rfl (by decide) ?_
          refine z_c (y := (-1)) rfl ?_
          refine z_istore_n (lv' := [(0, _), (1, _), (2, _), (3, _)]) hJ d_Sx_isOfKind_32 (by decide) rfl ?_
          refine z_iinc (v := 3) (lv' := [(0, _), (1, _), (2, _), (3, _)]) hJ d_Sx_isOfKind_33 3 rfl (by decide) (by decide) rfl ?_
          refine z_goto hJ d_Sx_isOfKind_36 ?_
          refine z_iload_n hJ d_Sx_isOfKind_4 3 rfl ?_
          refine z_bipush (v := 6) hJ d_Sx_isOfKind_5 (by decide) ?_
          refine z_icmp_ge hJ d_Sx_isOfKind_7 (fun c => absurd c (by decide)) (fun _ => ?_)
          refine z_iload_n hJ d_Sx_isOfKind_10 2 rfl ?_
          refine z_if_lt hJ d_Sx_isOfKind_11 (fun _ => ?_) (fun c => absurd c (by decide))
          refine z_iconst (v := 0) hJ d_Sx_isOfKind_39 (by decide) ?_
          exact z_ri hR d_Sx_isOfKind_40 (by simp [q_of, c_22, c_22_1, c_22_2]; try rfl) rfl
        · skip
          refine z_iconst (v := 1) hJ d_Sx_isOfKind_25 (by decide) ?_
          exact z_ri hR d_Sx_isOfKind_26 (by subst c_22_2; rfl) rfl
      · skip
        refine z_iconst (v := 1) hJ d_Sx_isOfKind_25 (by decide) ?_
        exact z_ri hR d_Sx_isOfKind_26 (by subst c_22_1; rfl) rfl
    · skip
      refine z_iconst (v := 1) hJ d_Sx_isOfKind_25 (by decide) ?_
      exact z_ri hR d_Sx_isOfKind_26 (by subst c_22; rfl) rfl
  · skip
    refine z_iload_n hJ d_Sx_isOfKind_0 0 rfl ?_
    refine z_istore_n (lv' := [(0, _), (1, _), (2, _)]) hJ d_Sx_isOfKind_1 (by decide) rfl ?_
    refine z_iconst (v := 0) hJ d_Sx_isOfKind_2 (by decide) ?_
    refine z_istore_n (lv' := [(0, _), (1, _), (2, _), (3, _)]) hJ d_Sx_isOfKind_3 (by decide) rfl ?_
    refine z_iload_n hJ d_Sx_isOfKind_4 3 rfl ?_
    refine z_bipush (v := 6) hJ d_Sx_isOfKind_5 (by decide) ?_
    refine z_icmp_ge hJ d_Sx_isOfKind_7 (fun c => absurd c (by decide)) (fun _ => ?_)
    refine z_iload_n hJ d_Sx_isOfKind_10 2 rfl ?_
    refine z_if_lt hJ d_Sx_isOfKind_11 (fun c => absurd c (by decide)) (fun _ => ?_)
    refine z_iload_n hJ d_Sx_isOfKind_14 2 rfl ?_
    refine z_bipush (v := 6) hJ d_Sx_isOfKind_15 (by decide) ?_
    refine z_icmp_ge hJ d_Sx_isOfKind_17 (fun c => absurd c (by decide)) (fun _ => ?_)
    refine z_iload_n hJ d_Sx_isOfKind_20 2 rfl ?_
    refine z_iload_n hJ d_Sx_isOfKind_21 1 rfl ?_
    refine z_icmp_ne hJ d_Sx_isOfKind_22 (fun c_22 => ?_) (fun c_22 => ?_)
    · skip
      refine z_gs3 hJ d_Sx_isOfKind_27 f_Sx_279 ?_
      refine z_iload_n hJ d_Sx_isOfKind_30 2 rfl ?_
      refine z_ti3 hJ d_Sx_isOfKind_31 5 rfl (by decide) ?_
      refine z_c (y := 3) rfl ?_
      refine z_istore_n (lv' := [(0, _), (1, _), (2, _), (3, _)]) hJ d_Sx_isOfKind_32 (by decide) rfl ?_
      refine z_iinc (v := 1) (lv' := [(0, _), (1, _), (2, _), (3, _)]) hJ d_Sx_isOfKind_33 3 rfl (by decide) (by decide) rfl ?_
      refine z_goto hJ d_Sx_isOfKind_36 ?_
      refine z_iload_n hJ d_Sx_isOfKind_4 3 rfl ?_
      refine z_bipush (v := 6) hJ d_Sx_isOfKind_5 (by decide) ?_
      refine z_icmp_ge hJ d_Sx_isOfKind_7 (fun c => absurd c (by decide)) (fun _ => ?_)
      refine z_iload_n hJ d_Sx_isOfKind_10 2 rfl ?_
      refine z_if_lt hJ d_Sx_isOfKind_11 (fun c => absurd c (by decide)) (fun _ => ?_)
      refine z_iload_n hJ d_Sx_isOfKind_14 2 rfl ?_
      refine z_bipush (v := 6) hJ d_Sx_isOfKind_15 (by decide) ?_
      refine z_icmp_ge hJ d_Sx_isOfKind_17 (fun c => absurd c (by decide)) (fun _ => ?_)
      refine z_iload_n hJ d_Sx_isOfKind_20 2 rfl ?_
      refine z_iload_n hJ d_Sx_isOfKind_21 1 rfl ?_
      refine z_icmp_ne hJ d_Sx_isOfKind_22 (fun c_22_1 => ?_) (fun c_22_1 => ?_)
      · skip
        refine z_gs3 hJ d_Sx_isOfKind_27 f_Sx_279 ?_
        refine z_iload_n hJ d_Sx_isOfKind_30 2 rfl ?_
        refine z_ti3 hJ d_Sx_isOfKind_31 3 rfl (by decide) ?_
        refine z_c (y := 0) rfl ?_
        refine z_istore_n (lv' := [(0, _), (1, _), (2, _), (3, _)]) hJ d_Sx_isOfKind_32 (by decide) rfl ?_
        refine z_iinc (v := 2) (lv' := [(0, _), (1, _), (2, _), (3, _)]) hJ d_Sx_isOfKind_33 3 rfl (by decide) (by decide) rfl ?_
        refine z_goto hJ d_Sx_isOfKind_36 ?_
        refine z_iload_n hJ d_Sx_isOfKind_4 3 rfl ?_
        refine z_bipush (v := 6) hJ d_Sx_isOfKind_5 (by decide) ?_
        refine z_icmp_ge hJ d_Sx_isOfKind_7 (fun c => absurd c (by decide)) (fun _ => ?_)
        refine z_iload_n hJ d_Sx_isOfKind_10 2 rfl ?_
        refine z_if_lt hJ d_Sx_isOfKind_11 (fun c => absurd c (by decide)) (fun _ => ?_)
        refine z_iload_n hJ d_Sx_isOfKind_14 2 rfl ?_
        refine z_bipush (v := 6) hJ d_Sx_isOfKind_15 (by decide) ?_
        refine z_icmp_ge hJ d_Sx_isOfKind_17 (fun c => absurd c (by decide)) (fun _ => ?_)
        refine z_iload_n hJ d_Sx_isOfKind_20 2 rfl ?_
        refine z_iload_n hJ d_Sx_isOfKind_21 1 rfl ?_
        refine z_icmp_ne hJ d_Sx_isOfKind_22 (fun c_22_2 => ?_) (fun c_22_2 => ?_)
        · skip
          refine z_gs3 hJ d_Sx_isOfKind_27 f_Sx_279 ?_
          refine z_iload_n hJ d_Sx_isOfKind_30 2 rfl ?_
          refine z_ti3 hJ d_Sx_isOfKind_31 0 rfl (by decide) ?_
          refine z_c (y := (-1)) rfl ?_
          refine z_istore_n (lv' := [(0, _), (1, _), (2, _), (3, _)]) hJ d_Sx_isOfKind_32 (by decide) rfl ?_
          refine z_iinc (v := 3) (lv' := [(0, _), (1, _), (2, _), (3, _)]) hJ d_Sx_isOfKind_33 3 rfl (by decide) (by decide) rfl ?_
          refine z_goto hJ d_Sx_isOfKind_36 ?_
          refine z_iload_n hJ d_Sx_isOfKind_4 3 rfl ?_
          refine z_bipush (v := 6) hJ d_Sx_isOfKind_5 (by decide) ?_
          refine z_icmp_ge hJ d_Sx_isOfKind_7 (fun c => absurd c (by decide)) (fun _ => ?_)
          refine z_iload_n hJ d_Sx_isOfKind_10 2 rfl ?_
          refine z_if_lt hJ d_Sx_isOfKind_11 (fun _ => ?_) (fun c => absurd c (by decide))
          refine z_iconst (v := 0) hJ d_Sx_isOfKind_39 (by decide) ?_
          exact z_ri hR d_Sx_isOfKind_40 (by simp [q_of, c_22, c_22_1, c_22_2]; try rfl) rfl
        · skip
          refine z_iconst (v := 1) hJ d_Sx_isOfKind_25 (by decide) ?_
          exact z_ri hR d_Sx_isOfKind_26 (by subst c_22_2; rfl) rfl
      · skip
        refine z_iconst (v := 1) hJ d_Sx_isOfKind_25 (by decide) ?_
        exact z_ri hR d_Sx_isOfKind_26 (by subst c_22_1; rfl) rfl
    · skip
      refine z_iconst (v := 1) hJ d_Sx_isOfKind_25 (by decide) ?_
      exact z_ri hR d_Sx_isOfKind_26 (by subst c_22; rfl) rfl
  · have ho := q_of_out (w := w) hk
    refine z_iload_n hJ d_Sx_isOfKind_0 0 rfl ?_
    refine z_istore_n (lv' := [(0, _), (1, _), (2, _)]) hJ d_Sx_isOfKind_1 (by decide) rfl ?_
    refine z_iconst (v := 0) hJ d_Sx_isOfKind_2 (by decide) ?_
    refine z_istore_n (lv' := [(0, _), (1, _), (2, _), (3, _)]) hJ d_Sx_isOfKind_3 (by decide) rfl ?_
    refine z_iload_n hJ d_Sx_isOfKind_4 3 rfl ?_
    refine z_bipush (v := 6) hJ d_Sx_isOfKind_5 (by decide) ?_
    refine z_icmp_ge hJ d_Sx_isOfKind_7 (fun c => absurd c (by decide)) (fun _ => ?_)
    refine z_iload_n hJ d_Sx_isOfKind_10 2 rfl ?_
    refine z_if_lt hJ d_Sx_isOfKind_11 (fun c_11 => ?_) (fun c_11 => ?_)
    · skip
      refine z_iconst (v := 0) hJ d_Sx_isOfKind_39 (by decide) ?_
      exact z_ri hR d_Sx_isOfKind_40 (by rw [ho]; rfl) rfl
    · skip
      refine z_iload_n hJ d_Sx_isOfKind_14 2 rfl ?_
      refine z_bipush (v := 6) hJ d_Sx_isOfKind_15 (by decide) ?_
      refine z_icmp_ge hJ d_Sx_isOfKind_17 (fun c_17 => ?_) (fun c_17 => False.elim (by exact c_17 (hk.resolve_left c_11)))
      refine z_iconst (v := 0) hJ d_Sx_isOfKind_39 (by decide) ?_
      exact z_ri hR d_Sx_isOfKind_40 (by rw [ho]; rfl) rfl
set_option maxRecDepth 100000 in
theorem m_Sx_sumOf {g : Nat → Nat → Nat} {a n c : Nat} {f : Nat → Int32} (hc : c ≤ n) (hn : n < 2 ^ 31) : zM g y_Sx_sumOf b_Sx_sumOf 4 (some .int) 0 [.ref a, .int (nI c)] ([(a, .inl (g 0 0, n, .inl f))]) [.int (q_sum f c)] ([(a, .inl (g 0 0, n, .inl f))]) := by
  refine zMi (lv := [(0, .ref a), (1, .int (nI c))]) (by decide) (Nat.le_of_ble_eq_true rfl) rfl (fun J hJ hR => ?_)
  refine z_iconst (v := 0) hJ d_Sx_sumOf_0 (by decide) ?_
  refine z_istore_n (lv' := [(0, _), (1, _), (2, _)]) hJ d_Sx_sumOf_1 (by decide) rfl ?_
  refine z_iconst (v := 0) hJ d_Sx_sumOf_2 (by decide) ?_
  refine z_istore_n (lv' := [(0, _), (1, _), (2, _), (3, _)]) hJ d_Sx_sumOf_3 (by decide) rfl ?_
  have L4 : ∀ j : Nat, j ≤ c → J ([(a, .inl (g 0 0, n, .inl f))]) 4 [(0, .ref a), (1, .int (nI c)), (2, .int (q_sum f j)), (3, .int (nI j))] [] := by
    refine zloop (c) (fun j hjN ih => ?_)
    refine z_iload_n hJ d_Sx_sumOf_4 3 rfl ?_
    refine z_iload_n hJ d_Sx_sumOf_5 1 rfl ?_
    refine z_icmp_ge hJ d_Sx_sumOf_6 (fun c_6 => ?_) (fun c_6 => ?_)
    · skip
      have h_6 : c ≤ j := by
        have e := nI_leI (a := c) (b := j) (by omega) (by omega)
        exact e.mp c_6
      obtain rfl : j = c := by omega
      refine z_iload_n hJ d_Sx_sumOf_21 2 rfl ?_
      exact z_ri hR d_Sx_sumOf_22 rfl rfl
    · skip
      have h_6 : ¬ (c ≤ j) := by
        have e := nI_leI (a := c) (b := j) (by omega) (by omega)
        exact fun q => c_6 (e.mpr q)
      refine z_iload_n hJ d_Sx_sumOf_9 2 rfl ?_
      refine z_aload_n hJ d_Sx_sumOf_10 0 rfl ?_
      refine z_iload_n hJ d_Sx_sumOf_11 3 rfl ?_
      refine z_iald hJ d_Sx_sumOf_12 0 (j) rfl rfl (by omega) hn ?_
      refine z_iadd hJ d_Sx_sumOf_13 ?_
      refine z_istore_n (lv' := [(0, _), (1, _), (2, _), (3, _)]) hJ d_Sx_sumOf_14 (by decide) rfl ?_
      refine z_iinc (v := nI (j + 1)) (lv' := [(0, _), (1, _), (2, _), (3, _)]) hJ d_Sx_sumOf_15 3 rfl (zinc _) (by decide) rfl ?_
      refine z_goto hJ d_Sx_sumOf_18 ?_
      exact ih (by omega)
  exact L4 0 (Nat.zero_le _)
