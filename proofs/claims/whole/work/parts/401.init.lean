theorem hI_Rd : Cond.instantiable "SixFellows$Road" 12 ∈ zT := zin 87 (by decide +kernel) rfl
theorem hN_Rd : Cond.initialized "SixFellows$Road" ∈ zT := zin 66 (by decide +kernel) rfl
theorem hF_Rd : ∀ j, j < 12 → defaultValue (ty_Rd j) = vp_V [.int 0, .int 0, .int 0, .int 0, .null, .null, .null, .null, .null, .null, .null, .null] j := by decide +kernel
theorem hI_Sh : Cond.instantiable "SixFellows$Sheet" 3 ∈ zT := zin 174 (by decide +kernel) rfl
theorem hN_Sh : Cond.initialized "SixFellows$Sheet" ∈ zT := zin 68 (by decide +kernel) rfl
theorem hF_Sh : ∀ j, j < 3 → defaultValue (ty_Sh j) = vp_V [.int 0, .int 0, .null] j := by decide +kernel
theorem hI_Tp : Cond.instantiable "SixFellows$Tape" 6 ∈ zT := zin 147 (by decide +kernel) rfl
theorem hN_Tp : Cond.initialized "SixFellows$Tape" ∈ zT := zin 67 (by decide +kernel) rfl
theorem hF_Tp : ∀ j, j < 6 → defaultValue (ty_Tp j) = vp_V [.null, .int 0, .int 0, .int 0, .int 0, .int 0] j := by decide +kernel
theorem hI_Sx : Cond.instantiable "SixFellows" 8 ∈ zT := zin 79 (by decide +kernel) rfl
theorem hN_Sx : Cond.initialized "SixFellows" ∈ zT := zin 65 (by decide +kernel) rfl
theorem hF_Sx : ∀ j, j < 8 → defaultValue (ty_Sx j) = vp_V [.null, .null, .null, .null, .null, .null, .null, .int 0] j := by decide +kernel
theorem hI_Mo : Cond.instantiable "SixFellowsModel" 21 ∈ zT := zin 737 (by decide +kernel) rfl
theorem hN_Mo : Cond.initialized "SixFellowsModel" ∈ zT := zin 69 (by decide +kernel) rfl
theorem hF_Mo : ∀ j, j < 21 → defaultValue (ty_Mo j) = vp_V [.null, .null, .int 0, .null, .null, .null, .null, .int 0, .int 0, .int 0, .int 0, .long 0, .int 0, .int 0, .null, .null, .null, .null, .null, .null, .int 0] j := by decide +kernel
theorem hL_Sx_13 : Cond.classLink "SixFellows" 13 "SixFellows$Road" ∈ zT := zin 86 (by decide +kernel) rfl
theorem hL_Sx_26 : Cond.classLink "SixFellows" 26 "SixFellows$Tape" ∈ zT := zin 146 (by decide +kernel) rfl
theorem hL_Sx_33 : Cond.classLink "SixFellows" 33 "SixFellows$Sheet" ∈ zT := zin 172 (by decide +kernel) rfl
theorem hL_Lw_7 : Cond.classLink "SixFellowsLaw" 7 "SixFellows" ∈ zT := zin 78 (by decide +kernel) rfl
theorem hL_Lw_10 : Cond.classLink "SixFellowsLaw" 10 "SixFellowsModel" ∈ zT := zin 736 (by decide +kernel) rfl
theorem hQ_Sx : Cond.methodLink "SixFellows" 1 Lib.objectInit ∈ zT := zin 83 (by decide +kernel) rfl
theorem hQ_Rd : Cond.methodLink "SixFellows$Road" 3 Lib.objectInit ∈ zT := zin 91 (by decide +kernel) rfl
theorem hQ_Tp : Cond.methodLink "SixFellows$Tape" 3 Lib.objectInit ∈ zT := zin 151 (by decide +kernel) rfl
theorem hQ_Sh : Cond.methodLink "SixFellows$Sheet" 3 Lib.objectInit ∈ zT := zin 178 (by decide +kernel) rfl
theorem hQ_Mo : Cond.methodLink "SixFellowsModel" 1 Lib.objectInit ∈ zT := zin 741 (by decide +kernel) rfl
theorem kI_Sx_15 : zCJ "SixFellows" 15 y_Rd_init b_Rd_init 1 := ⟨⟨"SixFellows", by decide +kernel⟩, zin 89 (by decide +kernel) rfl, hN_Rd, hk_Rd_init, ⟨by decide, by decide, by decide +kernel⟩, by decide, rfl⟩
theorem kI_Sx_28 : zCJ "SixFellows" 28 y_Tp_init b_Tp_init 1 := ⟨⟨"SixFellows", by decide +kernel⟩, zin 149 (by decide +kernel) rfl, hN_Tp, hk_Tp_init, ⟨by decide, by decide, by decide +kernel⟩, by decide, rfl⟩
theorem kI_Sx_35 : zCJ "SixFellows" 35 y_Sh_init b_Sh_init 1 := ⟨⟨"SixFellows", by decide +kernel⟩, zin 176 (by decide +kernel) rfl, hN_Sh, hk_Sh_init, ⟨by decide, by decide, by decide +kernel⟩, by decide, rfl⟩
theorem kI_Lw_9 : zCI "SixFellowsLaw" 9 y_Sx_init b_Sx_init 1 := ⟨zin 80 (by decide +kernel) rfl, zin 81 (by decide +kernel) rfl, hN_Sx, hk_Sx_init, ⟨by decide, by decide, by decide +kernel⟩, by decide, rfl⟩
theorem kI_Lw_12 : zCI "SixFellowsLaw" 12 y_Mo_init b_Mo_init 1 := ⟨zin 738 (by decide +kernel) rfl, zin 739 (by decide +kernel) rfl, hN_Mo, hk_Mo_init, ⟨by decide, by decide, by decide +kernel⟩, by decide, rfl⟩
set_option maxHeartbeats 20000000 in
set_option maxRecDepth 100000 in
theorem m_Rd_init {g : Nat → Nat → Nat} {a0 : Nat} : zMA g y_Rd_init b_Rd_init 1 1 8 60 a0 [(a0, .inr (0, [.int 0, .int 0, .int 0, .int 0, .null, .null, .null, .null, .null, .null, .null, .null]))] (fun b => rW g b zP0) := by
  refine zMA.of (by decide) rfl (Nat.le_of_ble_eq_true rfl) (fun J hO hR => ?_)
  refine z_aload_n (hO.ok (Nat.le_of_ble_eq_true rfl) (Nat.le_of_ble_eq_true rfl)) d_Rd_init_0 0 rfl ?_
  refine z_oi (hO.ok (Nat.le_of_ble_eq_true rfl) (Nat.le_of_ble_eq_true rfl)) d_Rd_init_1 hQ_Rd (Nat.le_of_ble_eq_true rfl) (Nat.le_of_ble_eq_true rfl) (Nat.le_of_ble_eq_true rfl) ?_
  refine z_aload_n (hO.ok (Nat.le_of_ble_eq_true rfl) (Nat.le_of_ble_eq_true rfl)) d_Rd_init_4 0 rfl ?_
  refine z_iconst (v := 0) (hO.ok (Nat.le_of_ble_eq_true rfl) (Nat.le_of_ble_eq_true rfl)) d_Rd_init_5 (by decide) ?_
  refine z_put (w' := [(a0, .inr (0, [.int 0, .int 0, .int 0, .int 0, .null, .null, .null, .null, .null, .null, .null, .null]))]) (hO.ok (Nat.le_of_ble_eq_true rfl) (Nat.le_of_ble_eq_true rfl)) d_Rd_init_6 hc_Rd f_Rd_9 0 rfl rfl rfl rfl (by decide) (Nat.le_of_ble_eq_true rfl) rfl ?_
  refine z_aload_n (hO.ok (Nat.le_of_ble_eq_true rfl) (Nat.le_of_ble_eq_true rfl)) d_Rd_init_9 0 rfl ?_
  refine z_iconst (v := 0) (hO.ok (Nat.le_of_ble_eq_true rfl) (Nat.le_of_ble_eq_true rfl)) d_Rd_init_10 (by decide) ?_
  refine z_put (w' := [(a0, .inr (0, [.int 0, .int 0, .int 0, .int 0, .null, .null, .null, .null, .null, .null, .null, .null]))]) (hO.ok (Nat.le_of_ble_eq_true rfl) (Nat.le_of_ble_eq_true rfl)) d_Rd_init_11 hc_Rd f_Rd_15 0 rfl rfl rfl rfl (by decide) (Nat.le_of_ble_eq_true rfl) rfl ?_
  refine z_aload_n (hO.ok (Nat.le_of_ble_eq_true rfl) (Nat.le_of_ble_eq_true rfl)) d_Rd_init_14 0 rfl ?_
  refine z_iconst (v := 0) (hO.ok (Nat.le_of_ble_eq_true rfl) (Nat.le_of_ble_eq_true rfl)) d_Rd_init_15 (by decide) ?_
  refine z_put (w' := [(a0, .inr (0, [.int 0, .int 0, .int 0, .int 0, .null, .null, .null, .null, .null, .null, .null, .null]))]) (hO.ok (Nat.le_of_ble_eq_true rfl) (Nat.le_of_ble_eq_true rfl)) d_Rd_init_16 hc_Rd f_Rd_18 0 rfl rfl rfl rfl (by decide) (Nat.le_of_ble_eq_true rfl) rfl ?_
  refine z_aload_n (hO.ok (Nat.le_of_ble_eq_true rfl) (Nat.le_of_ble_eq_true rfl)) d_Rd_init_19 0 rfl ?_
  refine z_iconst (v := 0) (hO.ok (Nat.le_of_ble_eq_true rfl) (Nat.le_of_ble_eq_true rfl)) d_Rd_init_20 (by decide) ?_
  refine z_put (w' := [(a0, .inr (0, [.int 0, .int 0, .int 0, .int 0, .null, .null, .null, .null, .null, .null, .null, .null]))]) (hO.ok (Nat.le_of_ble_eq_true rfl) (Nat.le_of_ble_eq_true rfl)) d_Rd_init_21 hc_Rd f_Rd_21 0 rfl rfl rfl rfl (by decide) (Nat.le_of_ble_eq_true rfl) rfl ?_
  refine z_aload_n (hO.ok (Nat.le_of_ble_eq_true rfl) (Nat.le_of_ble_eq_true rfl)) d_Rd_init_24 0 rfl ?_
  refine z_bipush (v := 7) (hO.ok (Nat.le_of_ble_eq_true rfl) (Nat.le_of_ble_eq_true rfl)) d_Rd_init_25 (by decide) ?_
  refine z_c (y := nI 7) rfl ?_
  refine z_mki (n := 7) hO (Nat.le_of_ble_eq_true rfl) (Nat.le_of_ble_eq_true rfl) d_Rd_init_27 (by decide) (fun q1 => ?_)
  refine z_w (w' := ((a0, .inr (0, [.int 0, .int 0, .int 0, .int 0, .null, .null, .null, .null, .null, .null, .null, .null])) :: [(q1, .inl (g 0 0, 7, .inl (fun _ => 0)))])) rfl ?_
  refine z_putF (w' := ((a0, .inr (0, [.int 0, .int 0, .int 0, .int 0, .ref q1, .null, .null, .null, .null, .null, .null, .null])) :: [(q1, .inl (g 0 0, 7, .inl (fun _ => 0)))])) hO d_Rd_init_29 hc_Rd f_Rd_24 0 rfl rfl rfl rfl rfl (by decide) (Nat.le_of_ble_eq_true rfl) rfl ?_
  refine z_aload_n (hO.ok (Nat.le_of_ble_eq_true rfl) (Nat.le_of_ble_eq_true rfl)) d_Rd_init_32 0 rfl ?_
  refine z_bipush (v := 7) (hO.ok (Nat.le_of_ble_eq_true rfl) (Nat.le_of_ble_eq_true rfl)) d_Rd_init_33 (by decide) ?_
  refine z_c (y := nI 7) rfl ?_
  refine z_mki (n := 7) hO (Nat.le_of_ble_eq_true rfl) (Nat.le_of_ble_eq_true rfl) d_Rd_init_35 (by decide) (fun q2 => ?_)
  refine z_w (w' := ((a0, .inr (0, [.int 0, .int 0, .int 0, .int 0, .ref q1, .null, .null, .null, .null, .null, .null, .null])) :: ([(q1, .inl (g 0 0, 7, .inl (fun _ => 0)))] ++ [(q2, .inl (g 0 0, 7, .inl (fun _ => 0)))]))) rfl ?_
  refine z_putF (w' := ((a0, .inr (0, [.int 0, .int 0, .int 0, .int 0, .ref q1, .ref q2, .null, .null, .null, .null, .null, .null])) :: ([(q1, .inl (g 0 0, 7, .inl (fun _ => 0)))] ++ [(q2, .inl (g 0 0, 7, .inl (fun _ => 0)))]))) hO d_Rd_init_37 hc_Rd f_Rd_28 0 rfl rfl rfl rfl rfl (by decide) (Nat.le_of_ble_eq_true rfl) rfl ?_
  refine z_aload_n (hO.ok (Nat.le_of_ble_eq_true rfl) (Nat.le_of_ble_eq_true rfl)) d_Rd_init_40 0 rfl ?_
  refine z_bipush (v := 7) (hO.ok (Nat.le_of_ble_eq_true rfl) (Nat.le_of_ble_eq_true rfl)) d_Rd_init_41 (by decide) ?_
  refine z_c (y := nI 7) rfl ?_
  refine z_mki (n := 7) hO (Nat.le_of_ble_eq_true rfl) (Nat.le_of_ble_eq_true rfl) d_Rd_init_43 (by decide) (fun q3 => ?_)
  refine z_w (w' := ((a0, .inr (0, [.int 0, .int 0, .int 0, .int 0, .ref q1, .ref q2, .null, .null, .null, .null, .null, .null])) :: (([(q1, .inl (g 0 0, 7, .inl (fun _ => 0)))] ++ [(q2, .inl (g 0 0, 7, .inl (fun _ => 0)))]) ++ [(q3, .inl (g 0 0, 7, .inl (fun _ => 0)))]))) rfl ?_
  refine z_putF (w' := ((a0, .inr (0, [.int 0, .int 0, .int 0, .int 0, .ref q1, .ref q2, .ref q3, .null, .null, .null, .null, .null])) :: (([(q1, .inl (g 0 0, 7, .inl (fun _ => 0)))] ++ [(q2, .inl (g 0 0, 7, .inl (fun _ => 0)))]) ++ [(q3, .inl (g 0 0, 7, .inl (fun _ => 0)))]))) hO d_Rd_init_45 hc_Rd f_Rd_31 0 rfl rfl rfl rfl rfl (by decide) (Nat.le_of_ble_eq_true rfl) rfl ?_
  refine z_aload_n (hO.ok (Nat.le_of_ble_eq_true rfl) (Nat.le_of_ble_eq_true rfl)) d_Rd_init_48 0 rfl ?_
  refine z_bipush (v := 7) (hO.ok (Nat.le_of_ble_eq_true rfl) (Nat.le_of_ble_eq_true rfl)) d_Rd_init_49 (by decide) ?_
  refine z_c (y := nI 7) rfl ?_
  refine z_mki (n := 7) hO (Nat.le_of_ble_eq_true rfl) (Nat.le_of_ble_eq_true rfl) d_Rd_init_51 (by decide) (fun q4 => ?_)
  refine z_w (w' := ((a0, .inr (0, [.int 0, .int 0, .int 0, .int 0, .ref q1, .ref q2, .ref q3, .null, .null, .null, .null, .null])) :: ((([(q1, .inl (g 0 0, 7, .inl (fun _ => 0)))] ++ [(q2, .inl (g 0 0, 7, .inl (fun _ => 0)))]) ++ [(q3, .inl (g 0 0, 7, .inl (fun _ => 0)))]) ++ [(q4, .inl (g 0 0, 7, .inl (fun _ => 0)))]))) rfl ?_
  refine z_putF (w' := ((a0, .inr (0, [.int 0, .int 0, .int 0, .int 0, .ref q1, .ref q2, .ref q3, .ref q4, .null, .null, .null, .null])) :: ((([(q1, .inl (g 0 0, 7, .inl (fun _ => 0)))] ++ [(q2, .inl (g 0 0, 7, .inl (fun _ => 0)))]) ++ [(q3, .inl (g 0 0, 7, .inl (fun _ => 0)))]) ++ [(q4, .inl (g 0 0, 7, .inl (fun _ => 0)))]))) hO d_Rd_init_53 hc_Rd f_Rd_34 0 rfl rfl rfl rfl rfl (by decide) (Nat.le_of_ble_eq_true rfl) rfl ?_
  refine z_aload_n (hO.ok (Nat.le_of_ble_eq_true rfl) (Nat.le_of_ble_eq_true rfl)) d_Rd_init_56 0 rfl ?_
  refine z_bipush (v := 8) (hO.ok (Nat.le_of_ble_eq_true rfl) (Nat.le_of_ble_eq_true rfl)) d_Rd_init_57 (by decide) ?_
  refine z_c (y := nI 8) rfl ?_
  refine z_mki (n := 8) hO (Nat.le_of_ble_eq_true rfl) (Nat.le_of_ble_eq_true rfl) d_Rd_init_59 (by decide) (fun q5 => ?_)
  refine z_w (w' := ((a0, .inr (0, [.int 0, .int 0, .int 0, .int 0, .ref q1, .ref q2, .ref q3, .ref q4, .null, .null, .null, .null])) :: (((([(q1, .inl (g 0 0, 7, .inl (fun _ => 0)))] ++ [(q2, .inl (g 0 0, 7, .inl (fun _ => 0)))]) ++ [(q3, .inl (g 0 0, 7, .inl (fun _ => 0)))]) ++ [(q4, .inl (g 0 0, 7, .inl (fun _ => 0)))]) ++ [(q5, .inl (g 0 0, 8, .inl (fun _ => 0)))]))) rfl ?_
  refine z_putF (w' := ((a0, .inr (0, [.int 0, .int 0, .int 0, .int 0, .ref q1, .ref q2, .ref q3, .ref q4, .ref q5, .null, .null, .null])) :: (((([(q1, .inl (g 0 0, 7, .inl (fun _ => 0)))] ++ [(q2, .inl (g 0 0, 7, .inl (fun _ => 0)))]) ++ [(q3, .inl (g 0 0, 7, .inl (fun _ => 0)))]) ++ [(q4, .inl (g 0 0, 7, .inl (fun _ => 0)))]) ++ [(q5, .inl (g 0 0, 8, .inl (fun _ => 0)))]))) hO d_Rd_init_61 hc_Rd f_Rd_37 0 rfl rfl rfl rfl rfl (by decide) (Nat.le_of_ble_eq_true rfl) rfl ?_
  refine z_aload_n (hO.ok (Nat.le_of_ble_eq_true rfl) (Nat.le_of_ble_eq_true rfl)) d_Rd_init_64 0 rfl ?_
  refine z_bipush (v := 8) (hO.ok (Nat.le_of_ble_eq_true rfl) (Nat.le_of_ble_eq_true rfl)) d_Rd_init_65 (by decide) ?_
  refine z_c (y := nI 8) rfl ?_
  refine z_mki (n := 8) hO (Nat.le_of_ble_eq_true rfl) (Nat.le_of_ble_eq_true rfl) d_Rd_init_67 (by decide) (fun q6 => ?_)
  refine z_w (w' := ((a0, .inr (0, [.int 0, .int 0, .int 0, .int 0, .ref q1, .ref q2, .ref q3, .ref q4, .ref q5, .null, .null, .null])) :: ((((([(q1, .inl (g 0 0, 7, .inl (fun _ => 0)))] ++ [(q2, .inl (g 0 0, 7, .inl (fun _ => 0)))]) ++ [(q3, .inl (g 0 0, 7, .inl (fun _ => 0)))]) ++ [(q4, .inl (g 0 0, 7, .inl (fun _ => 0)))]) ++ [(q5, .inl (g 0 0, 8, .inl (fun _ => 0)))]) ++ [(q6, .inl (g 0 0, 8, .inl (fun _ => 0)))]))) rfl ?_
  refine z_putF (w' := ((a0, .inr (0, [.int 0, .int 0, .int 0, .int 0, .ref q1, .ref q2, .ref q3, .ref q4, .ref q5, .ref q6, .null, .null])) :: ((((([(q1, .inl (g 0 0, 7, .inl (fun _ => 0)))] ++ [(q2, .inl (g 0 0, 7, .inl (fun _ => 0)))]) ++ [(q3, .inl (g 0 0, 7, .inl (fun _ => 0)))]) ++ [(q4, .inl (g 0 0, 7, .inl (fun _ => 0)))]) ++ [(q5, .inl (g 0 0, 8, .inl (fun _ => 0)))]) ++ [(q6, .inl (g 0 0, 8, .inl (fun _ => 0)))]))) hO d_Rd_init_69 hc_Rd f_Rd_40 0 rfl rfl rfl rfl rfl (by decide) (Nat.le_of_ble_eq_true rfl) rfl ?_
  refine z_aload_n (hO.ok (Nat.le_of_ble_eq_true rfl) (Nat.le_of_ble_eq_true rfl)) d_Rd_init_72 0 rfl ?_
  refine z_bipush (v := 8) (hO.ok (Nat.le_of_ble_eq_true rfl) (Nat.le_of_ble_eq_true rfl)) d_Rd_init_73 (by decide) ?_
  refine z_c (y := nI 8) rfl ?_
  refine z_mki (n := 8) hO (Nat.le_of_ble_eq_true rfl) (Nat.le_of_ble_eq_true rfl) d_Rd_init_75 (by decide) (fun q7 => ?_)
  refine z_w (w' := ((a0, .inr (0, [.int 0, .int 0, .int 0, .int 0, .ref q1, .ref q2, .ref q3, .ref q4, .ref q5, .ref q6, .null, .null])) :: (((((([(q1, .inl (g 0 0, 7, .inl (fun _ => 0)))] ++ [(q2, .inl (g 0 0, 7, .inl (fun _ => 0)))]) ++ [(q3, .inl (g 0 0, 7, .inl (fun _ => 0)))]) ++ [(q4, .inl (g 0 0, 7, .inl (fun _ => 0)))]) ++ [(q5, .inl (g 0 0, 8, .inl (fun _ => 0)))]) ++ [(q6, .inl (g 0 0, 8, .inl (fun _ => 0)))]) ++ [(q7, .inl (g 0 0, 8, .inl (fun _ => 0)))]))) rfl ?_
  refine z_putF (w' := ((a0, .inr (0, [.int 0, .int 0, .int 0, .int 0, .ref q1, .ref q2, .ref q3, .ref q4, .ref q5, .ref q6, .ref q7, .null])) :: (((((([(q1, .inl (g 0 0, 7, .inl (fun _ => 0)))] ++ [(q2, .inl (g 0 0, 7, .inl (fun _ => 0)))]) ++ [(q3, .inl (g 0 0, 7, .inl (fun _ => 0)))]) ++ [(q4, .inl (g 0 0, 7, .inl (fun _ => 0)))]) ++ [(q5, .inl (g 0 0, 8, .inl (fun _ => 0)))]) ++ [(q6, .inl (g 0 0, 8, .inl (fun _ => 0)))]) ++ [(q7, .inl (g 0 0, 8, .inl (fun _ => 0)))]))) hO d_Rd_init_77 hc_Rd f_Rd_43 0 rfl rfl rfl rfl rfl (by decide) (Nat.le_of_ble_eq_true rfl) rfl ?_
  refine z_aload_n (hO.ok (Nat.le_of_ble_eq_true rfl) (Nat.le_of_ble_eq_true rfl)) d_Rd_init_80 0 rfl ?_
  refine z_bipush (v := 8) (hO.ok (Nat.le_of_ble_eq_true rfl) (Nat.le_of_ble_eq_true rfl)) d_Rd_init_81 (by decide) ?_
  refine z_c (y := nI 8) rfl ?_
  refine z_mki (n := 8) hO (Nat.le_of_ble_eq_true rfl) (Nat.le_of_ble_eq_true rfl) d_Rd_init_83 (by decide) (fun q8 => ?_)
  refine z_w (w' := ((a0, .inr (0, [.int 0, .int 0, .int 0, .int 0, .ref q1, .ref q2, .ref q3, .ref q4, .ref q5, .ref q6, .ref q7, .null])) :: ((((((([(q1, .inl (g 0 0, 7, .inl (fun _ => 0)))] ++ [(q2, .inl (g 0 0, 7, .inl (fun _ => 0)))]) ++ [(q3, .inl (g 0 0, 7, .inl (fun _ => 0)))]) ++ [(q4, .inl (g 0 0, 7, .inl (fun _ => 0)))]) ++ [(q5, .inl (g 0 0, 8, .inl (fun _ => 0)))]) ++ [(q6, .inl (g 0 0, 8, .inl (fun _ => 0)))]) ++ [(q7, .inl (g 0 0, 8, .inl (fun _ => 0)))]) ++ [(q8, .inl (g 0 0, 8, .inl (fun _ => 0)))]))) rfl ?_
  refine z_putF (w' := ((a0, .inr (0, [.int 0, .int 0, .int 0, .int 0, .ref q1, .ref q2, .ref q3, .ref q4, .ref q5, .ref q6, .ref q7, .ref q8])) :: ((((((([(q1, .inl (g 0 0, 7, .inl (fun _ => 0)))] ++ [(q2, .inl (g 0 0, 7, .inl (fun _ => 0)))]) ++ [(q3, .inl (g 0 0, 7, .inl (fun _ => 0)))]) ++ [(q4, .inl (g 0 0, 7, .inl (fun _ => 0)))]) ++ [(q5, .inl (g 0 0, 8, .inl (fun _ => 0)))]) ++ [(q6, .inl (g 0 0, 8, .inl (fun _ => 0)))]) ++ [(q7, .inl (g 0 0, 8, .inl (fun _ => 0)))]) ++ [(q8, .inl (g 0 0, 8, .inl (fun _ => 0)))]))) hO d_Rd_init_85 hc_Rd f_Rd_46 0 rfl rfl rfl rfl rfl (by decide) (Nat.le_of_ble_eq_true rfl) rfl ?_
  exact z_rv (hR (fun j => [a0, q1, q2, q3, q4, q5, q6, q7, q8].getD j 0) rfl) d_Rd_init_88 rfl
set_option maxHeartbeats 20000000 in
set_option maxRecDepth 100000 in
theorem m_Sh_init {g : Nat → Nat → Nat} {a0 : Nat} : zMA g y_Sh_init b_Sh_init 1 1 1 40 a0 [(a0, .inr (1, [.int 0, .int 0, .null]))] (fun b => sW g b (0, 0, fun _ => 0)) := by
  refine zMA.of (by decide) rfl (Nat.le_of_ble_eq_true rfl) (fun J hO hR => ?_)
  refine z_aload_n (hO.ok (Nat.le_of_ble_eq_true rfl) (Nat.le_of_ble_eq_true rfl)) d_Sh_init_0 0 rfl ?_
  refine z_oi (hO.ok (Nat.le_of_ble_eq_true rfl) (Nat.le_of_ble_eq_true rfl)) d_Sh_init_1 hQ_Sh (Nat.le_of_ble_eq_true rfl) (Nat.le_of_ble_eq_true rfl) (Nat.le_of_ble_eq_true rfl) ?_
  refine z_aload_n (hO.ok (Nat.le_of_ble_eq_true rfl) (Nat.le_of_ble_eq_true rfl)) d_Sh_init_4 0 rfl ?_
  refine z_iconst (v := 0) (hO.ok (Nat.le_of_ble_eq_true rfl) (Nat.le_of_ble_eq_true rfl)) d_Sh_init_5 (by decide) ?_
  refine z_put (w' := [(a0, .inr (1, [.int 0, .int 0, .null]))]) (hO.ok (Nat.le_of_ble_eq_true rfl) (Nat.le_of_ble_eq_true rfl)) d_Sh_init_6 hc_Sh f_Sh_9 0 rfl rfl rfl rfl (by decide) (Nat.le_of_ble_eq_true rfl) rfl ?_
  refine z_aload_n (hO.ok (Nat.le_of_ble_eq_true rfl) (Nat.le_of_ble_eq_true rfl)) d_Sh_init_9 0 rfl ?_
  refine z_iconst (v := 0) (hO.ok (Nat.le_of_ble_eq_true rfl) (Nat.le_of_ble_eq_true rfl)) d_Sh_init_10 (by decide) ?_
  refine z_put (w' := [(a0, .inr (1, [.int 0, .int 0, .null]))]) (hO.ok (Nat.le_of_ble_eq_true rfl) (Nat.le_of_ble_eq_true rfl)) d_Sh_init_11 hc_Sh f_Sh_15 0 rfl rfl rfl rfl (by decide) (Nat.le_of_ble_eq_true rfl) rfl ?_
  refine z_aload_n (hO.ok (Nat.le_of_ble_eq_true rfl) (Nat.le_of_ble_eq_true rfl)) d_Sh_init_14 0 rfl ?_
  refine z_bipush (v := 40) (hO.ok (Nat.le_of_ble_eq_true rfl) (Nat.le_of_ble_eq_true rfl)) d_Sh_init_15 (by decide) ?_
  refine z_c (y := nI 40) rfl ?_
  refine z_mkl (n := 40) hO (Nat.le_of_ble_eq_true rfl) (Nat.le_of_ble_eq_true rfl) d_Sh_init_17 (by decide) (fun q1 => ?_)
  refine z_w (w' := ((a0, .inr (1, [.int 0, .int 0, .null])) :: [(q1, .inl (g 0 1, 40, .inr (.inl (fun _ => 0))))])) rfl ?_
  refine z_putF (w' := ((a0, .inr (1, [.int 0, .int 0, .ref q1])) :: [(q1, .inl (g 0 1, 40, .inr (.inl (fun _ => 0))))])) hO d_Sh_init_19 hc_Sh f_Sh_18 0 rfl rfl rfl rfl rfl (by decide) (Nat.le_of_ble_eq_true rfl) rfl ?_
  exact z_rv (hR (fun j => [a0, q1].getD j 0) rfl) d_Sh_init_22 rfl
set_option maxHeartbeats 20000000 in
set_option maxRecDepth 100000 in
theorem m_Tp_init {g : Nat → Nat → Nat} {a0 : Nat} : zMA g y_Tp_init b_Tp_init 1 1 1 120 a0 [(a0, .inr (2, [.null, .int 0, .int 0, .int 0, .int 0, .int 0]))] (fun b => tW g b ((fun _ => 0), 0, 0, 0, 0, 0)) := by
  refine zMA.of (by decide) rfl (Nat.le_of_ble_eq_true rfl) (fun J hO hR => ?_)
  refine z_aload_n (hO.ok (Nat.le_of_ble_eq_true rfl) (Nat.le_of_ble_eq_true rfl)) d_Tp_init_0 0 rfl ?_
  refine z_oi (hO.ok (Nat.le_of_ble_eq_true rfl) (Nat.le_of_ble_eq_true rfl)) d_Tp_init_1 hQ_Tp (Nat.le_of_ble_eq_true rfl) (Nat.le_of_ble_eq_true rfl) (Nat.le_of_ble_eq_true rfl) ?_
  refine z_aload_n (hO.ok (Nat.le_of_ble_eq_true rfl) (Nat.le_of_ble_eq_true rfl)) d_Tp_init_4 0 rfl ?_
  refine z_bipush (v := 120) (hO.ok (Nat.le_of_ble_eq_true rfl) (Nat.le_of_ble_eq_true rfl)) d_Tp_init_5 (by decide) ?_
  refine z_c (y := nI 120) rfl ?_
  refine z_mki (n := 120) hO (Nat.le_of_ble_eq_true rfl) (Nat.le_of_ble_eq_true rfl) d_Tp_init_7 (by decide) (fun q1 => ?_)
  refine z_w (w' := ((a0, .inr (2, [.null, .int 0, .int 0, .int 0, .int 0, .int 0])) :: [(q1, .inl (g 0 0, 120, .inl (fun _ => 0)))])) rfl ?_
  refine z_putF (w' := ((a0, .inr (2, [.ref q1, .int 0, .int 0, .int 0, .int 0, .int 0])) :: [(q1, .inl (g 0 0, 120, .inl (fun _ => 0)))])) hO d_Tp_init_9 hc_Tp f_Tp_9 0 rfl rfl rfl rfl rfl (by decide) (Nat.le_of_ble_eq_true rfl) rfl ?_
  refine z_aload_n (hO.ok (Nat.le_of_ble_eq_true rfl) (Nat.le_of_ble_eq_true rfl)) d_Tp_init_12 0 rfl ?_
  refine z_iconst (v := 0) (hO.ok (Nat.le_of_ble_eq_true rfl) (Nat.le_of_ble_eq_true rfl)) d_Tp_init_13 (by decide) ?_
  refine z_put (w' := ((a0, .inr (2, [.ref q1, .int 0, .int 0, .int 0, .int 0, .int 0])) :: [(q1, .inl (g 0 0, 120, .inl (fun _ => 0)))])) (hO.ok (Nat.le_of_ble_eq_true rfl) (Nat.le_of_ble_eq_true rfl)) d_Tp_init_14 hc_Tp f_Tp_15 0 rfl rfl rfl rfl (by decide) (Nat.le_of_ble_eq_true rfl) rfl ?_
  refine z_aload_n (hO.ok (Nat.le_of_ble_eq_true rfl) (Nat.le_of_ble_eq_true rfl)) d_Tp_init_17 0 rfl ?_
  refine z_iconst (v := 0) (hO.ok (Nat.le_of_ble_eq_true rfl) (Nat.le_of_ble_eq_true rfl)) d_Tp_init_18 (by decide) ?_
  refine z_put (w' := ((a0, .inr (2, [.ref q1, .int 0, .int 0, .int 0, .int 0, .int 0])) :: [(q1, .inl (g 0 0, 120, .inl (fun _ => 0)))])) (hO.ok (Nat.le_of_ble_eq_true rfl) (Nat.le_of_ble_eq_true rfl)) d_Tp_init_19 hc_Tp f_Tp_19 0 rfl rfl rfl rfl (by decide) (Nat.le_of_ble_eq_true rfl) rfl ?_
  refine z_aload_n (hO.ok (Nat.le_of_ble_eq_true rfl) (Nat.le_of_ble_eq_true rfl)) d_Tp_init_22 0 rfl ?_
  refine z_iconst (v := 0) (hO.ok (Nat.le_of_ble_eq_true rfl) (Nat.le_of_ble_eq_true rfl)) d_Tp_init_23 (by decide) ?_
  refine z_put (w' := ((a0, .inr (2, [.ref q1, .int 0, .int 0, .int 0, .int 0, .int 0])) :: [(q1, .inl (g 0 0, 120, .inl (fun _ => 0)))])) (hO.ok (Nat.le_of_ble_eq_true rfl) (Nat.le_of_ble_eq_true rfl)) d_Tp_init_24 hc_Tp f_Tp_22 0 rfl rfl rfl rfl (by decide) (Nat.le_of_ble_eq_true rfl) rfl ?_
  refine z_aload_n (hO.ok (Nat.le_of_ble_eq_true rfl) (Nat.le_of_ble_eq_true rfl)) d_Tp_init_27 0 rfl ?_
  refine z_iconst (v := 0) (hO.ok (Nat.le_of_ble_eq_true rfl) (Nat.le_of_ble_eq_true rfl)) d_Tp_init_28 (by decide) ?_
  refine z_put (w' := ((a0, .inr (2, [.ref q1, .int 0, .int 0, .int 0, .int 0, .int 0])) :: [(q1, .inl (g 0 0, 120, .inl (fun _ => 0)))])) (hO.ok (Nat.le_of_ble_eq_true rfl) (Nat.le_of_ble_eq_true rfl)) d_Tp_init_29 hc_Tp f_Tp_25 0 rfl rfl rfl rfl (by decide) (Nat.le_of_ble_eq_true rfl) rfl ?_
  refine z_aload_n (hO.ok (Nat.le_of_ble_eq_true rfl) (Nat.le_of_ble_eq_true rfl)) d_Tp_init_32 0 rfl ?_
  refine z_iconst (v := 0) (hO.ok (Nat.le_of_ble_eq_true rfl) (Nat.le_of_ble_eq_true rfl)) d_Tp_init_33 (by decide) ?_
  refine z_put (w' := ((a0, .inr (2, [.ref q1, .int 0, .int 0, .int 0, .int 0, .int 0])) :: [(q1, .inl (g 0 0, 120, .inl (fun _ => 0)))])) (hO.ok (Nat.le_of_ble_eq_true rfl) (Nat.le_of_ble_eq_true rfl)) d_Tp_init_34 hc_Tp f_Tp_28 0 rfl rfl rfl rfl (by decide) (Nat.le_of_ble_eq_true rfl) rfl ?_
  exact z_rv (hR (fun j => [a0, q1].getD j 0) rfl) d_Tp_init_37 rfl
