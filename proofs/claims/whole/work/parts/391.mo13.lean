set_option maxRecDepth 100000 in
theorem m_Mo_byteAt {g : Nat → Nat → Nat} {a : Nat → Nat} {x0 : Nat → Int32} {x1 : Nat → Int32} {x3 : Nat → Int32} {x4 : Nat → Int32} {x5 : Nat → Int64} {x6 : Nat → Int32} {x7 : Nat} {x8 : Int32} {x9 : Nat} {x10 : Nat} {x11 : Int64} {x12 : Int32} {x13 : Bool} {x14 : Nat → Int32} {x15 : Nat → Int32} {x16 : Nat → Int64} {x17 : Nat → Int64} {x18 : Nat → Int32} {x19 : Nat → Int32} {x20 : Bool} {P : RS} {i : Nat} (h7 : x7 ≤ 120) (hi : i < 1000) : zM g y_Mo_byteAt b_Mo_byteAt 2 (some .int) 0 [.ref (a 0), .int (nI i)] (mV g a x0 x1 127 x3 x4 x5 x6 x7 x8 x9 x10 x11 x12 x13 x14 x15 x16 x17 x18 x19 x20) [.int (if i < x7 then x6 i else -1)] (mV g a x0 x1 127 x3 x4 x5 x6 x7 x8 x9 x10 x11 x12 x13 x14 x15 x16 x17 x18 x19 x20) := by
  refine zMi (lv := [(0, .ref (a 0)), (1, .int (nI i))]) (by decide) (Nat.le_of_ble_eq_true rfl) rfl (fun J hJ hR => ?_)
  refine z_iload_n hJ d_Mo_byteAt_0 1 rfl ?_
  refine z_aload_n hJ d_Mo_byteAt_1 0 rfl ?_
  refine z_get hJ d_Mo_byteAt_2 hc_Mo f_Mo_187 0 rfl rfl (by decide) ?_
  refine z_icmp_ge hJ d_Mo_byteAt_5 (fun c_5 => ?_) (fun c_5 => ?_)
  · skip
    try dsimp only at c_5
    have h_5 : x7 ≤ i := by
      have e := nI_leI (a := x7) (b := i) (by omega) (by omega)
      exact e.mp c_5
    refine z_iconst (v := (-1)) hJ d_Mo_byteAt_17 (by decide) ?_
    exact z_ri hR d_Mo_byteAt_18 (by rw [if_neg (by omega)]) rfl
  · skip
    try dsimp only at c_5
    have h_5 : ¬ (x7 ≤ i) := by
      have e := nI_leI (a := x7) (b := i) (by omega) (by omega)
      exact fun q => c_5 (e.mpr q)
    refine z_aload_n hJ d_Mo_byteAt_8 0 rfl ?_
    refine z_get hJ d_Mo_byteAt_9 hc_Mo f_Mo_30 0 rfl rfl (by decide) ?_
    refine z_iload_n hJ d_Mo_byteAt_12 1 rfl ?_
    refine z_iald hJ d_Mo_byteAt_13 6 (i) rfl rfl (by omega) (by decide) ?_
    refine z_goto hJ d_Mo_byteAt_14 ?_
    exact z_ri hR d_Mo_byteAt_18 (by rw [if_pos (by omega)]) rfl
