theorem rW_cg {g : Nat → Nat → Nat} {b b' : Nat → Nat} {P : RS} (h : ∀ j, j < 9 → b j = b' j) : rW g b P = rW g b' P := by
  unfold rW
  rw [h 0 (by decide), h 1 (by decide), h 2 (by decide), h 3 (by decide), h 4 (by decide), h 5 (by decide), h 6 (by decide), h 7 (by decide), h 8 (by decide)]
theorem sW_cg {g : Nat → Nat → Nat} {b b' : Nat → Nat} {S : SS} (h : ∀ j, j < 2 → b j = b' j) : sW g b S = sW g b' S := by
  unfold sW
  rw [h 0 (by decide), h 1 (by decide)]
theorem tW_cg {g : Nat → Nat → Nat} {b b' : Nat → Nat} {T : TS} (h : ∀ j, j < 2 → b j = b' j) : tW g b T = tW g b' T := by
  unfold tW
  rw [h 0 (by decide), h 1 (by decide)]
/-- the addresses of the whole object, in their order -/
def q_ad41 (a0 q1 q31 q40 : Nat) (b1 b2 b3 b4 c0 c1 c2 c3 : Nat → Nat) : Nat → Nat := fun j => if j = 0 then a0 else if j = 1 then q1 else if j < 11 then b1 (j - 2) else if j < 20 then b2 (j - 11) else if j < 29 then b3 (j - 20) else if j < 31 then b4 (j - 29) else if j = 31 then q31 else if j < 34 then c0 (j - 32) else if j < 36 then c1 (j - 34) else if j < 38 then c2 (j - 36) else if j < 40 then c3 (j - 38) else q40
theorem xW_mk {g : Nat → Nat → Nat} {a0 q1 q31 q40 : Nat} {b1 b2 b3 b4 c0 c1 c2 c3 : Nat → Nat} {f : Nat → Int32} {P K T : RS} {tp : TS} {S0 S1 S2 S3 : SS} {es : Nat → Int32} {kp : Bool} {ss : Nat → SS} (h0 : ss 0 = S0) (h1 : ss 1 = S1) (h2 : ss 2 = S2) (h3 : ss 3 = S3) :
    xW g (q_ad41 a0 q1 q31 q40 b1 b2 b3 b4 c0 c1 c2 c3) f P K T tp ss es kp = [(a0, .inr (3, [.ref q1, .ref (b1 0), .ref (b2 0), .ref (b3 0), .ref (b4 0), .ref q31, .ref q40, .int (zB kp)])), (q1, .inl (g 0 0, 7, .inl f))] ++ rW g b1 P ++ rW g b2 K ++ rW g b3 T ++ tW g b4 tp ++ [(q31, .inl (g 0 2, 4, .inr (.inr (.inr (.inr (fun j => some (q_ad41 a0 q1 q31 q40 b1 b2 b3 b4 c0 c1 c2 c3 (32 + 2 * j))))))))] ++ sW g c0 S0 ++ sW g c1 S1 ++ sW g c2 S2 ++ sW g c3 S3 ++ [(q40, .inl (g 0 0, 128, .inl es))] := by
  unfold xW
  rw [h0, h1, h2, h3]
  have e1 : rW g (fun j => q_ad41 a0 q1 q31 q40 b1 b2 b3 b4 c0 c1 c2 c3 (2 + j)) P = rW g b1 P := rW_cg (fun j hj => by
    show q_ad41 a0 q1 q31 q40 b1 b2 b3 b4 c0 c1 c2 c3 (2 + j) = b1 j
    unfold q_ad41
    rw [if_neg (by omega), if_neg (by omega), if_pos (by omega), show 2 + j - 2 = j by omega])
  have e2 : rW g (fun j => q_ad41 a0 q1 q31 q40 b1 b2 b3 b4 c0 c1 c2 c3 (11 + j)) K = rW g b2 K := rW_cg (fun j hj => by
    show q_ad41 a0 q1 q31 q40 b1 b2 b3 b4 c0 c1 c2 c3 (11 + j) = b2 j
    unfold q_ad41
    rw [if_neg (by omega), if_neg (by omega), if_neg (by omega), if_pos (by omega), show 11 + j - 11 = j by omega])
  have e3 : rW g (fun j => q_ad41 a0 q1 q31 q40 b1 b2 b3 b4 c0 c1 c2 c3 (20 + j)) T = rW g b3 T := rW_cg (fun j hj => by
    show q_ad41 a0 q1 q31 q40 b1 b2 b3 b4 c0 c1 c2 c3 (20 + j) = b3 j
    unfold q_ad41
    rw [if_neg (by omega), if_neg (by omega), if_neg (by omega), if_neg (by omega), if_pos (by omega), show 20 + j - 20 = j by omega])
  have e4 : tW g (fun j => q_ad41 a0 q1 q31 q40 b1 b2 b3 b4 c0 c1 c2 c3 (29 + j)) tp = tW g b4 tp := tW_cg (fun j hj => by
    show q_ad41 a0 q1 q31 q40 b1 b2 b3 b4 c0 c1 c2 c3 (29 + j) = b4 j
    unfold q_ad41
    rw [if_neg (by omega), if_neg (by omega), if_neg (by omega), if_neg (by omega), if_neg (by omega), if_pos (by omega), show 29 + j - 29 = j by omega])
  have s : ∀ (n : Nat) (c : Nat → Nat) (S : SS), (∀ j, j < 2 → q_ad41 a0 q1 q31 q40 b1 b2 b3 b4 c0 c1 c2 c3 (n + j) = c j) → sW g (fun j => q_ad41 a0 q1 q31 q40 b1 b2 b3 b4 c0 c1 c2 c3 (n + j)) S = sW g c S := fun n c S h => sW_cg h
  rw [e1, e2, e3, e4, s 32 c0 S0 (fun j hj => by
    unfold q_ad41
    rw [if_neg (by omega), if_neg (by omega), if_neg (by omega), if_neg (by omega), if_neg (by omega), if_neg (by omega), if_neg (by omega), if_pos (by omega), show 32 + j - 32 = j by omega]), s 34 c1 S1 (fun j hj => by
    unfold q_ad41
    rw [if_neg (by omega), if_neg (by omega), if_neg (by omega), if_neg (by omega), if_neg (by omega), if_neg (by omega), if_neg (by omega), if_neg (by omega), if_pos (by omega), show 34 + j - 34 = j by omega]), s 36 c2 S2 (fun j hj => by
    unfold q_ad41
    rw [if_neg (by omega), if_neg (by omega), if_neg (by omega), if_neg (by omega), if_neg (by omega), if_neg (by omega), if_neg (by omega), if_neg (by omega), if_neg (by omega), if_pos (by omega), show 36 + j - 36 = j by omega]), s 38 c3 S3 (fun j hj => by
    unfold q_ad41
    rw [if_neg (by omega), if_neg (by omega), if_neg (by omega), if_neg (by omega), if_neg (by omega), if_neg (by omega), if_neg (by omega), if_neg (by omega), if_neg (by omega), if_neg (by omega), if_pos (by omega), show 38 + j - 38 = j by omega])]
  rfl
set_option maxHeartbeats 20000000 in
set_option maxRecDepth 100000 in
theorem m_Sx_init {g : Nat → Nat → Nat} {a0 : Nat} : zMA g y_Sx_init b_Sx_init 1 2 40 653 a0 [(a0, .inr (3, [.null, .null, .null, .null, .null, .null, .null, .int 0]))] (fun a => xW g a (fun _ => 0) zP0 zP0 zP0 ((fun _ => 0), 0, 0, 0, 0, 0) (fun _ => (0, 0, fun _ => 0)) (fun _ => 0) false) := by
  refine zMA.of (by decide) rfl (Nat.le_of_ble_eq_true rfl) (fun J hO hR => ?_)
  refine z_aload_n (hO.ok (Nat.le_of_ble_eq_true rfl) (Nat.le_of_ble_eq_true rfl)) d_Sx_init_0 0 rfl ?_
  refine z_oi (hO.ok (Nat.le_of_ble_eq_true rfl) (Nat.le_of_ble_eq_true rfl)) d_Sx_init_1 hQ_Sx (Nat.le_of_ble_eq_true rfl) (Nat.le_of_ble_eq_true rfl) (Nat.le_of_ble_eq_true rfl) ?_
  refine z_aload_n (hO.ok (Nat.le_of_ble_eq_true rfl) (Nat.le_of_ble_eq_true rfl)) d_Sx_init_4 0 rfl ?_
  refine z_bipush (v := 7) (hO.ok (Nat.le_of_ble_eq_true rfl) (Nat.le_of_ble_eq_true rfl)) d_Sx_init_5 (by decide) ?_
  refine z_c (y := nI 7) rfl ?_
  refine z_mki (n := 7) hO (Nat.le_of_ble_eq_true rfl) (Nat.le_of_ble_eq_true rfl) d_Sx_init_7 (by decide) (fun q1 => ?_)
  refine z_w (w' := ((a0, .inr (3, [.null, .null, .null, .null, .null, .null, .null, .int 0])) :: [(q1, .inl (g 0 0, 7, .inl (fun _ => 0)))])) rfl ?_
  refine z_putF (w' := ((a0, .inr (3, [.ref q1, .null, .null, .null, .null, .null, .null, .int 0])) :: [(q1, .inl (g 0 0, 7, .inl (fun _ => 0)))])) hO d_Sx_init_9 hc_Sx f_Sx_9 0 rfl rfl rfl rfl rfl (by decide) (Nat.le_of_ble_eq_true rfl) rfl ?_
  refine z_aload_n (hO.ok (Nat.le_of_ble_eq_true rfl) (Nat.le_of_ble_eq_true rfl)) d_Sx_init_12 0 rfl ?_
  refine z_new hO (Nat.le_of_ble_eq_true rfl) (Nat.le_of_ble_eq_true rfl) d_Sx_init_13 hc_Rd hL_Sx_13 hI_Rd hN_Rd hF_Rd (fun q2 => ?_)
  refine z_dup (hO.ok (Nat.le_of_ble_eq_true rfl) (Nat.le_of_ble_eq_true rfl)) d_Sx_init_16 rfl ?_
  refine z_cJ (J := J) (cn := 2) (sn := 19) (lv := [(0, .ref a0)]) (rest := [.ref q2, .ref a0]) (pre := ((a0, .inr (3, [.ref q1, .null, .null, .null, .null, .null, .null, .int 0])) :: [(q1, .inl (g 0 0, 7, .inl (fun _ => 0)))])) hO m_Rd_init kI_Sx_15 d_Sx_init_17 (Nat.le_of_ble_eq_true rfl) ⟨by decide, by decide⟩ ⟨(Nat.le_of_ble_eq_true rfl), (Nat.le_of_ble_eq_true rfl)⟩ (fun b3 hb3 => ?_)
  subst hb3
  refine z_w (w' := ((a0, .inr (3, [.ref q1, .null, .null, .null, .null, .null, .null, .int 0])) :: ([(q1, .inl (g 0 0, 7, .inl (fun _ => 0)))] ++ rW g b3 zP0))) rfl ?_
  refine z_putF (w' := ((a0, .inr (3, [.ref q1, .ref (b3 0), .null, .null, .null, .null, .null, .int 0])) :: ([(q1, .inl (g 0 0, 7, .inl (fun _ => 0)))] ++ rW g b3 zP0))) hO d_Sx_init_20 hc_Sx f_Sx_16 0 rfl rfl rfl rfl rfl (by decide) (Nat.le_of_ble_eq_true rfl) rfl ?_
  refine z_aload_n (hO.ok (Nat.le_of_ble_eq_true rfl) (Nat.le_of_ble_eq_true rfl)) d_Sx_init_23 0 rfl ?_
  refine z_new hO (Nat.le_of_ble_eq_true rfl) (Nat.le_of_ble_eq_true rfl) d_Sx_init_24 hc_Rd hL_Sx_13 hI_Rd hN_Rd hF_Rd (fun q4 => ?_)
  refine z_dup (hO.ok (Nat.le_of_ble_eq_true rfl) (Nat.le_of_ble_eq_true rfl)) d_Sx_init_27 rfl ?_
  refine z_cJ (J := J) (cn := 11) (sn := 91) (lv := [(0, .ref a0)]) (rest := [.ref q4, .ref a0]) (pre := ((a0, .inr (3, [.ref q1, .ref (b3 0), .null, .null, .null, .null, .null, .int 0])) :: ([(q1, .inl (g 0 0, 7, .inl (fun _ => 0)))] ++ rW g b3 zP0))) hO m_Rd_init kI_Sx_15 d_Sx_init_28 (Nat.le_of_ble_eq_true rfl) ⟨by decide, by decide⟩ ⟨(Nat.le_of_ble_eq_true rfl), (Nat.le_of_ble_eq_true rfl)⟩ (fun b5 hb5 => ?_)
  subst hb5
  refine z_w (w' := ((a0, .inr (3, [.ref q1, .ref (b3 0), .null, .null, .null, .null, .null, .int 0])) :: (([(q1, .inl (g 0 0, 7, .inl (fun _ => 0)))] ++ rW g b3 zP0) ++ rW g b5 zP0))) rfl ?_
  refine z_putF (w' := ((a0, .inr (3, [.ref q1, .ref (b3 0), .ref (b5 0), .null, .null, .null, .null, .int 0])) :: (([(q1, .inl (g 0 0, 7, .inl (fun _ => 0)))] ++ rW g b3 zP0) ++ rW g b5 zP0))) hO d_Sx_init_31 hc_Sx f_Sx_20 0 rfl rfl rfl rfl rfl (by decide) (Nat.le_of_ble_eq_true rfl) rfl ?_
  refine z_aload_n (hO.ok (Nat.le_of_ble_eq_true rfl) (Nat.le_of_ble_eq_true rfl)) d_Sx_init_34 0 rfl ?_
  refine z_new hO (Nat.le_of_ble_eq_true rfl) (Nat.le_of_ble_eq_true rfl) d_Sx_init_35 hc_Rd hL_Sx_13 hI_Rd hN_Rd hF_Rd (fun q6 => ?_)
  refine z_dup (hO.ok (Nat.le_of_ble_eq_true rfl) (Nat.le_of_ble_eq_true rfl)) d_Sx_init_38 rfl ?_
  refine z_cJ (J := J) (cn := 20) (sn := 163) (lv := [(0, .ref a0)]) (rest := [.ref q6, .ref a0]) (pre := ((a0, .inr (3, [.ref q1, .ref (b3 0), .ref (b5 0), .null, .null, .null, .null, .int 0])) :: (([(q1, .inl (g 0 0, 7, .inl (fun _ => 0)))] ++ rW g b3 zP0) ++ rW g b5 zP0))) hO m_Rd_init kI_Sx_15 d_Sx_init_39 (Nat.le_of_ble_eq_true rfl) ⟨by decide, by decide⟩ ⟨(Nat.le_of_ble_eq_true rfl), (Nat.le_of_ble_eq_true rfl)⟩ (fun b7 hb7 => ?_)
  subst hb7
  refine z_w (w' := ((a0, .inr (3, [.ref q1, .ref (b3 0), .ref (b5 0), .null, .null, .null, .null, .int 0])) :: ((([(q1, .inl (g 0 0, 7, .inl (fun _ => 0)))] ++ rW g b3 zP0) ++ rW g b5 zP0) ++ rW g b7 zP0))) rfl ?_
  refine z_putF (w' := ((a0, .inr (3, [.ref q1, .ref (b3 0), .ref (b5 0), .ref (b7 0), .null, .null, .null, .int 0])) :: ((([(q1, .inl (g 0 0, 7, .inl (fun _ => 0)))] ++ rW g b3 zP0) ++ rW g b5 zP0) ++ rW g b7 zP0))) hO d_Sx_init_42 hc_Sx f_Sx_23 0 rfl rfl rfl rfl rfl (by decide) (Nat.le_of_ble_eq_true rfl) rfl ?_
  refine z_aload_n (hO.ok (Nat.le_of_ble_eq_true rfl) (Nat.le_of_ble_eq_true rfl)) d_Sx_init_45 0 rfl ?_
  refine z_new hO (Nat.le_of_ble_eq_true rfl) (Nat.le_of_ble_eq_true rfl) d_Sx_init_46 hc_Tp hL_Sx_26 hI_Tp hN_Tp hF_Tp (fun q8 => ?_)
  refine z_dup (hO.ok (Nat.le_of_ble_eq_true rfl) (Nat.le_of_ble_eq_true rfl)) d_Sx_init_49 rfl ?_
  refine z_cJ (J := J) (cn := 29) (sn := 229) (lv := [(0, .ref a0)]) (rest := [.ref q8, .ref a0]) (pre := ((a0, .inr (3, [.ref q1, .ref (b3 0), .ref (b5 0), .ref (b7 0), .null, .null, .null, .int 0])) :: ((([(q1, .inl (g 0 0, 7, .inl (fun _ => 0)))] ++ rW g b3 zP0) ++ rW g b5 zP0) ++ rW g b7 zP0))) hO m_Tp_init kI_Sx_28 d_Sx_init_50 (Nat.le_of_ble_eq_true rfl) ⟨by decide, by decide⟩ ⟨(Nat.le_of_ble_eq_true rfl), (Nat.le_of_ble_eq_true rfl)⟩ (fun b9 hb9 => ?_)
  subst hb9
  refine z_w (w' := ((a0, .inr (3, [.ref q1, .ref (b3 0), .ref (b5 0), .ref (b7 0), .null, .null, .null, .int 0])) :: (((([(q1, .inl (g 0 0, 7, .inl (fun _ => 0)))] ++ rW g b3 zP0) ++ rW g b5 zP0) ++ rW g b7 zP0) ++ tW g b9 ((fun _ => 0), 0, 0, 0, 0, 0)))) rfl ?_
  refine z_putF (w' := ((a0, .inr (3, [.ref q1, .ref (b3 0), .ref (b5 0), .ref (b7 0), .ref (b9 0), .null, .null, .int 0])) :: (((([(q1, .inl (g 0 0, 7, .inl (fun _ => 0)))] ++ rW g b3 zP0) ++ rW g b5 zP0) ++ rW g b7 zP0) ++ tW g b9 ((fun _ => 0), 0, 0, 0, 0, 0)))) hO d_Sx_init_53 hc_Sx f_Sx_29 0 rfl rfl rfl rfl rfl (by decide) (Nat.le_of_ble_eq_true rfl) rfl ?_
  refine z_aload_n (hO.ok (Nat.le_of_ble_eq_true rfl) (Nat.le_of_ble_eq_true rfl)) d_Sx_init_56 0 rfl ?_
  refine z_iconst (v := 4) (hO.ok (Nat.le_of_ble_eq_true rfl) (Nat.le_of_ble_eq_true rfl)) d_Sx_init_57 (by decide) ?_
  refine z_c (y := nI 4) rfl ?_
  refine z_mkq (n := 4) hO (Nat.le_of_ble_eq_true rfl) (Nat.le_of_ble_eq_true rfl) d_Sx_init_58 hL_Sx_33 (by decide) (fun q10 => ?_)
  refine z_w (w' := ((a0, .inr (3, [.ref q1, .ref (b3 0), .ref (b5 0), .ref (b7 0), .ref (b9 0), .null, .null, .int 0])) :: ((((([(q1, .inl (g 0 0, 7, .inl (fun _ => 0)))] ++ rW g b3 zP0) ++ rW g b5 zP0) ++ rW g b7 zP0) ++ tW g b9 ((fun _ => 0), 0, 0, 0, 0, 0)) ++ [(q10, .inl (g 0 2, 4, .inr (.inr (.inr (.inr (fun _ => none))))))]))) rfl ?_
  refine z_dup (hO.ok (Nat.le_of_ble_eq_true rfl) (Nat.le_of_ble_eq_true rfl)) d_Sx_init_61 rfl ?_
  refine z_iconst (v := 0) (hO.ok (Nat.le_of_ble_eq_true rfl) (Nat.le_of_ble_eq_true rfl)) d_Sx_init_62 (by decide) ?_
  refine z_new hO (Nat.le_of_ble_eq_true rfl) (Nat.le_of_ble_eq_true rfl) d_Sx_init_63 hc_Sh hL_Sx_33 hI_Sh hN_Sh hF_Sh (fun q11 => ?_)
  refine z_dup (hO.ok (Nat.le_of_ble_eq_true rfl) (Nat.le_of_ble_eq_true rfl)) d_Sx_init_66 rfl ?_
  refine z_cJ (J := J) (cn := 32) (sn := 356) (lv := [(0, .ref a0)]) (rest := [.ref q11, .int 0, .ref q10, .ref q10, .ref a0]) (pre := ((a0, .inr (3, [.ref q1, .ref (b3 0), .ref (b5 0), .ref (b7 0), .ref (b9 0), .null, .null, .int 0])) :: ((((([(q1, .inl (g 0 0, 7, .inl (fun _ => 0)))] ++ rW g b3 zP0) ++ rW g b5 zP0) ++ rW g b7 zP0) ++ tW g b9 ((fun _ => 0), 0, 0, 0, 0, 0)) ++ [(q10, .inl (g 0 2, 4, .inr (.inr (.inr (.inr (fun _ => none))))))]))) hO m_Sh_init kI_Sx_35 d_Sx_init_67 (Nat.le_of_ble_eq_true rfl) ⟨by decide, by decide⟩ ⟨(Nat.le_of_ble_eq_true rfl), (Nat.le_of_ble_eq_true rfl)⟩ (fun b12 hb12 => ?_)
  subst hb12
  refine z_w (w' := ((a0, .inr (3, [.ref q1, .ref (b3 0), .ref (b5 0), .ref (b7 0), .ref (b9 0), .null, .null, .int 0])) :: (((((([(q1, .inl (g 0 0, 7, .inl (fun _ => 0)))] ++ rW g b3 zP0) ++ rW g b5 zP0) ++ rW g b7 zP0) ++ tW g b9 ((fun _ => 0), 0, 0, 0, 0, 0)) ++ [(q10, .inl (g 0 2, 4, .inr (.inr (.inr (.inr (fun _ => none))))))]) ++ sW g b12 (0, 0, fun _ => 0)))) rfl ?_
  refine z_astq (w' := ((a0, .inr (3, [.ref q1, .ref (b3 0), .ref (b5 0), .ref (b7 0), .ref (b9 0), .null, .null, .int 0])) :: (((((([(q1, .inl (g 0 0, 7, .inl (fun _ => 0)))] ++ rW g b3 zP0) ++ rW g b5 zP0) ++ rW g b7 zP0) ++ tW g b9 ((fun _ => 0), 0, 0, 0, 0, 0)) ++ [(q10, .inl (g 0 2, 4, .inr (.inr (.inr (.inr (va_up (fun _ => none) 0 (some (b12 0))))))))]) ++ sW g b12 (0, 0, fun _ => 0)))) (i := 0) (hO.ok (Nat.le_of_ble_eq_true rfl) (Nat.le_of_ble_eq_true rfl)) d_Sx_init_70 31 32 rfl rfl (by decide) (by decide) rfl ?_
  refine z_dup (hO.ok (Nat.le_of_ble_eq_true rfl) (Nat.le_of_ble_eq_true rfl)) d_Sx_init_71 rfl ?_
  refine z_iconst (v := 1) (hO.ok (Nat.le_of_ble_eq_true rfl) (Nat.le_of_ble_eq_true rfl)) d_Sx_init_72 (by decide) ?_
  refine z_new hO (Nat.le_of_ble_eq_true rfl) (Nat.le_of_ble_eq_true rfl) d_Sx_init_73 hc_Sh hL_Sx_33 hI_Sh hN_Sh hF_Sh (fun q13 => ?_)
  refine z_dup (hO.ok (Nat.le_of_ble_eq_true rfl) (Nat.le_of_ble_eq_true rfl)) d_Sx_init_76 rfl ?_
  refine z_cJ (J := J) (cn := 34) (sn := 399) (lv := [(0, .ref a0)]) (rest := [.ref q13, .int 1, .ref q10, .ref q10, .ref a0]) (pre := ((a0, .inr (3, [.ref q1, .ref (b3 0), .ref (b5 0), .ref (b7 0), .ref (b9 0), .null, .null, .int 0])) :: (((((([(q1, .inl (g 0 0, 7, .inl (fun _ => 0)))] ++ rW g b3 zP0) ++ rW g b5 zP0) ++ rW g b7 zP0) ++ tW g b9 ((fun _ => 0), 0, 0, 0, 0, 0)) ++ [(q10, .inl (g 0 2, 4, .inr (.inr (.inr (.inr (va_up (fun _ => none) 0 (some (b12 0))))))))]) ++ sW g b12 (0, 0, fun _ => 0)))) hO m_Sh_init kI_Sx_35 d_Sx_init_77 (Nat.le_of_ble_eq_true rfl) ⟨by decide, by decide⟩ ⟨(Nat.le_of_ble_eq_true rfl), (Nat.le_of_ble_eq_true rfl)⟩ (fun b14 hb14 => ?_)
  subst hb14
  refine z_w (w' := ((a0, .inr (3, [.ref q1, .ref (b3 0), .ref (b5 0), .ref (b7 0), .ref (b9 0), .null, .null, .int 0])) :: ((((((([(q1, .inl (g 0 0, 7, .inl (fun _ => 0)))] ++ rW g b3 zP0) ++ rW g b5 zP0) ++ rW g b7 zP0) ++ tW g b9 ((fun _ => 0), 0, 0, 0, 0, 0)) ++ [(q10, .inl (g 0 2, 4, .inr (.inr (.inr (.inr (va_up (fun _ => none) 0 (some (b12 0))))))))]) ++ sW g b12 (0, 0, fun _ => 0)) ++ sW g b14 (0, 0, fun _ => 0)))) rfl ?_
  refine z_astq (w' := ((a0, .inr (3, [.ref q1, .ref (b3 0), .ref (b5 0), .ref (b7 0), .ref (b9 0), .null, .null, .int 0])) :: ((((((([(q1, .inl (g 0 0, 7, .inl (fun _ => 0)))] ++ rW g b3 zP0) ++ rW g b5 zP0) ++ rW g b7 zP0) ++ tW g b9 ((fun _ => 0), 0, 0, 0, 0, 0)) ++ [(q10, .inl (g 0 2, 4, .inr (.inr (.inr (.inr (va_up (va_up (fun _ => none) 0 (some (b12 0))) 1 (some (b14 0))))))))]) ++ sW g b12 (0, 0, fun _ => 0)) ++ sW g b14 (0, 0, fun _ => 0)))) (i := 1) (hO.ok (Nat.le_of_ble_eq_true rfl) (Nat.le_of_ble_eq_true rfl)) d_Sx_init_80 31 34 rfl rfl (by decide) (by decide) rfl ?_
  refine z_dup (hO.ok (Nat.le_of_ble_eq_true rfl) (Nat.le_of_ble_eq_true rfl)) d_Sx_init_81 rfl ?_
  refine z_iconst (v := 2) (hO.ok (Nat.le_of_ble_eq_true rfl) (Nat.le_of_ble_eq_true rfl)) d_Sx_init_82 (by decide) ?_
  refine z_new hO (Nat.le_of_ble_eq_true rfl) (Nat.le_of_ble_eq_true rfl) d_Sx_init_83 hc_Sh hL_Sx_33 hI_Sh hN_Sh hF_Sh (fun q15 => ?_)
  refine z_dup (hO.ok (Nat.le_of_ble_eq_true rfl) (Nat.le_of_ble_eq_true rfl)) d_Sx_init_86 rfl ?_
  refine z_cJ (J := J) (cn := 36) (sn := 442) (lv := [(0, .ref a0)]) (rest := [.ref q15, .int 2, .ref q10, .ref q10, .ref a0]) (pre := ((a0, .inr (3, [.ref q1, .ref (b3 0), .ref (b5 0), .ref (b7 0), .ref (b9 0), .null, .null, .int 0])) :: ((((((([(q1, .inl (g 0 0, 7, .inl (fun _ => 0)))] ++ rW g b3 zP0) ++ rW g b5 zP0) ++ rW g b7 zP0) ++ tW g b9 ((fun _ => 0), 0, 0, 0, 0, 0)) ++ [(q10, .inl (g 0 2, 4, .inr (.inr (.inr (.inr (va_up (va_up (fun _ => none) 0 (some (b12 0))) 1 (some (b14 0))))))))]) ++ sW g b12 (0, 0, fun _ => 0)) ++ sW g b14 (0, 0, fun _ => 0)))) hO m_Sh_init kI_Sx_35 d_Sx_init_87 (Nat.le_of_ble_eq_true rfl) ⟨by decide, by decide⟩ ⟨(Nat.le_of_ble_eq_true rfl), (Nat.le_of_ble_eq_true rfl)⟩ (fun b16 hb16 => ?_)
  subst hb16
  refine z_w (w' := ((a0, .inr (3, [.ref q1, .ref (b3 0), .ref (b5 0), .ref (b7 0), .ref (b9 0), .null, .null, .int 0])) :: (((((((([(q1, .inl (g 0 0, 7, .inl (fun _ => 0)))] ++ rW g b3 zP0) ++ rW g b5 zP0) ++ rW g b7 zP0) ++ tW g b9 ((fun _ => 0), 0, 0, 0, 0, 0)) ++ [(q10, .inl (g 0 2, 4, .inr (.inr (.inr (.inr (va_up (va_up (fun _ => none) 0 (some (b12 0))) 1 (some (b14 0))))))))]) ++ sW g b12 (0, 0, fun _ => 0)) ++ sW g b14 (0, 0, fun _ => 0)) ++ sW g b16 (0, 0, fun _ => 0)))) rfl ?_
  refine z_astq (w' := ((a0, .inr (3, [.ref q1, .ref (b3 0), .ref (b5 0), .ref (b7 0), .ref (b9 0), .null, .null, .int 0])) :: (((((((([(q1, .inl (g 0 0, 7, .inl (fun _ => 0)))] ++ rW g b3 zP0) ++ rW g b5 zP0) ++ rW g b7 zP0) ++ tW g b9 ((fun _ => 0), 0, 0, 0, 0, 0)) ++ [(q10, .inl (g 0 2, 4, .inr (.inr (.inr (.inr (va_up (va_up (va_up (fun _ => none) 0 (some (b12 0))) 1 (some (b14 0))) 2 (some (b16 0))))))))]) ++ sW g b12 (0, 0, fun _ => 0)) ++ sW g b14 (0, 0, fun _ => 0)) ++ sW g b16 (0, 0, fun _ => 0)))) (i := 2) (hO.ok (Nat.le_of_ble_eq_true rfl) (Nat.le_of_ble_eq_true rfl)) d_Sx_init_90 31 36 rfl rfl (by decide) (by decide) rfl ?_
  refine z_dup (hO.ok (Nat.le_of_ble_eq_true rfl) (Nat.le_of_ble_eq_true rfl)) d_Sx_init_91 rfl ?_
  refine z_iconst (v := 3) (hO.ok (Nat.le_of_ble_eq_true rfl) (Nat.le_of_ble_eq_true rfl)) d_Sx_init_92 (by decide) ?_
  refine z_new hO (Nat.le_of_ble_eq_true rfl) (Nat.le_of_ble_eq_true rfl) d_Sx_init_93 hc_Sh hL_Sx_33 hI_Sh hN_Sh hF_Sh (fun q17 => ?_)
  refine z_dup (hO.ok (Nat.le_of_ble_eq_true rfl) (Nat.le_of_ble_eq_true rfl)) d_Sx_init_96 rfl ?_
  refine z_cJ (J := J) (cn := 38) (sn := 485) (lv := [(0, .ref a0)]) (rest := [.ref q17, .int 3, .ref q10, .ref q10, .ref a0]) (pre := ((a0, .inr (3, [.ref q1, .ref (b3 0), .ref (b5 0), .ref (b7 0), .ref (b9 0), .null, .null, .int 0])) :: (((((((([(q1, .inl (g 0 0, 7, .inl (fun _ => 0)))] ++ rW g b3 zP0) ++ rW g b5 zP0) ++ rW g b7 zP0) ++ tW g b9 ((fun _ => 0), 0, 0, 0, 0, 0)) ++ [(q10, .inl (g 0 2, 4, .inr (.inr (.inr (.inr (va_up (va_up (va_up (fun _ => none) 0 (some (b12 0))) 1 (some (b14 0))) 2 (some (b16 0))))))))]) ++ sW g b12 (0, 0, fun _ => 0)) ++ sW g b14 (0, 0, fun _ => 0)) ++ sW g b16 (0, 0, fun _ => 0)))) hO m_Sh_init kI_Sx_35 d_Sx_init_97 (Nat.le_of_ble_eq_true rfl) ⟨by decide, by decide⟩ ⟨(Nat.le_of_ble_eq_true rfl), (Nat.le_of_ble_eq_true rfl)⟩ (fun b18 hb18 => ?_)
  subst hb18
  refine z_w (w' := ((a0, .inr (3, [.ref q1, .ref (b3 0), .ref (b5 0), .ref (b7 0), .ref (b9 0), .null, .null, .int 0])) :: ((((((((([(q1, .inl (g 0 0, 7, .inl (fun _ => 0)))] ++ rW g b3 zP0) ++ rW g b5 zP0) ++ rW g b7 zP0) ++ tW g b9 ((fun _ => 0), 0, 0, 0, 0, 0)) ++ [(q10, .inl (g 0 2, 4, .inr (.inr (.inr (.inr (va_up (va_up (va_up (fun _ => none) 0 (some (b12 0))) 1 (some (b14 0))) 2 (some (b16 0))))))))]) ++ sW g b12 (0, 0, fun _ => 0)) ++ sW g b14 (0, 0, fun _ => 0)) ++ sW g b16 (0, 0, fun _ => 0)) ++ sW g b18 (0, 0, fun _ => 0)))) rfl ?_
  refine z_astq (w' := ((a0, .inr (3, [.ref q1, .ref (b3 0), .ref (b5 0), .ref (b7 0), .ref (b9 0), .null, .null, .int 0])) :: ((((((((([(q1, .inl (g 0 0, 7, .inl (fun _ => 0)))] ++ rW g b3 zP0) ++ rW g b5 zP0) ++ rW g b7 zP0) ++ tW g b9 ((fun _ => 0), 0, 0, 0, 0, 0)) ++ [(q10, .inl (g 0 2, 4, .inr (.inr (.inr (.inr (va_up (va_up (va_up (va_up (fun _ => none) 0 (some (b12 0))) 1 (some (b14 0))) 2 (some (b16 0))) 3 (some (b18 0))))))))]) ++ sW g b12 (0, 0, fun _ => 0)) ++ sW g b14 (0, 0, fun _ => 0)) ++ sW g b16 (0, 0, fun _ => 0)) ++ sW g b18 (0, 0, fun _ => 0)))) (i := 3) (hO.ok (Nat.le_of_ble_eq_true rfl) (Nat.le_of_ble_eq_true rfl)) d_Sx_init_100 31 38 rfl rfl (by decide) (by decide) rfl ?_
  refine z_putF (w' := ((a0, .inr (3, [.ref q1, .ref (b3 0), .ref (b5 0), .ref (b7 0), .ref (b9 0), .ref q10, .null, .int 0])) :: ((((((((([(q1, .inl (g 0 0, 7, .inl (fun _ => 0)))] ++ rW g b3 zP0) ++ rW g b5 zP0) ++ rW g b7 zP0) ++ tW g b9 ((fun _ => 0), 0, 0, 0, 0, 0)) ++ [(q10, .inl (g 0 2, 4, .inr (.inr (.inr (.inr (va_up (va_up (va_up (va_up (fun _ => none) 0 (some (b12 0))) 1 (some (b14 0))) 2 (some (b16 0))) 3 (some (b18 0))))))))]) ++ sW g b12 (0, 0, fun _ => 0)) ++ sW g b14 (0, 0, fun _ => 0)) ++ sW g b16 (0, 0, fun _ => 0)) ++ sW g b18 (0, 0, fun _ => 0)))) hO d_Sx_init_101 hc_Sx f_Sx_36 0 rfl rfl rfl rfl rfl (by decide) (Nat.le_of_ble_eq_true rfl) rfl ?_
  refine z_aload_n (hO.ok (Nat.le_of_ble_eq_true rfl) (Nat.le_of_ble_eq_true rfl)) d_Sx_init_104 0 rfl ?_
  refine z_sipush (v := 128) (hO.ok (Nat.le_of_ble_eq_true rfl) (Nat.le_of_ble_eq_true rfl)) d_Sx_init_105 (by decide) ?_
  refine z_c (y := nI 128) rfl ?_
  refine z_mki (n := 128) hO (Nat.le_of_ble_eq_true rfl) (Nat.le_of_ble_eq_true rfl) d_Sx_init_108 (by decide) (fun q19 => ?_)
  refine z_w (w' := ((a0, .inr (3, [.ref q1, .ref (b3 0), .ref (b5 0), .ref (b7 0), .ref (b9 0), .ref q10, .null, .int 0])) :: (((((((((([(q1, .inl (g 0 0, 7, .inl (fun _ => 0)))] ++ rW g b3 zP0) ++ rW g b5 zP0) ++ rW g b7 zP0) ++ tW g b9 ((fun _ => 0), 0, 0, 0, 0, 0)) ++ [(q10, .inl (g 0 2, 4, .inr (.inr (.inr (.inr (va_up (va_up (va_up (va_up (fun _ => none) 0 (some (b12 0))) 1 (some (b14 0))) 2 (some (b16 0))) 3 (some (b18 0))))))))]) ++ sW g b12 (0, 0, fun _ => 0)) ++ sW g b14 (0, 0, fun _ => 0)) ++ sW g b16 (0, 0, fun _ => 0)) ++ sW g b18 (0, 0, fun _ => 0)) ++ [(q19, .inl (g 0 0, 128, .inl (fun _ => 0)))]))) rfl ?_
  refine z_putF (w' := ((a0, .inr (3, [.ref q1, .ref (b3 0), .ref (b5 0), .ref (b7 0), .ref (b9 0), .ref q10, .ref q19, .int 0])) :: (((((((((([(q1, .inl (g 0 0, 7, .inl (fun _ => 0)))] ++ rW g b3 zP0) ++ rW g b5 zP0) ++ rW g b7 zP0) ++ tW g b9 ((fun _ => 0), 0, 0, 0, 0, 0)) ++ [(q10, .inl (g 0 2, 4, .inr (.inr (.inr (.inr (va_up (va_up (va_up (va_up (fun _ => none) 0 (some (b12 0))) 1 (some (b14 0))) 2 (some (b16 0))) 3 (some (b18 0))))))))]) ++ sW g b12 (0, 0, fun _ => 0)) ++ sW g b14 (0, 0, fun _ => 0)) ++ sW g b16 (0, 0, fun _ => 0)) ++ sW g b18 (0, 0, fun _ => 0)) ++ [(q19, .inl (g 0 0, 128, .inl (fun _ => 0)))]))) hO d_Sx_init_110 hc_Sx f_Sx_40 0 rfl rfl rfl rfl rfl (by decide) (Nat.le_of_ble_eq_true rfl) rfl ?_
  refine z_aload_n (hO.ok (Nat.le_of_ble_eq_true rfl) (Nat.le_of_ble_eq_true rfl)) d_Sx_init_113 0 rfl ?_
  refine z_iconst (v := 0) (hO.ok (Nat.le_of_ble_eq_true rfl) (Nat.le_of_ble_eq_true rfl)) d_Sx_init_114 (by decide) ?_
  refine z_put (w' := ((a0, .inr (3, [.ref q1, .ref (b3 0), .ref (b5 0), .ref (b7 0), .ref (b9 0), .ref q10, .ref q19, .int 0])) :: (((((((((([(q1, .inl (g 0 0, 7, .inl (fun _ => 0)))] ++ rW g b3 zP0) ++ rW g b5 zP0) ++ rW g b7 zP0) ++ tW g b9 ((fun _ => 0), 0, 0, 0, 0, 0)) ++ [(q10, .inl (g 0 2, 4, .inr (.inr (.inr (.inr (va_up (va_up (va_up (va_up (fun _ => none) 0 (some (b12 0))) 1 (some (b14 0))) 2 (some (b16 0))) 3 (some (b18 0))))))))]) ++ sW g b12 (0, 0, fun _ => 0)) ++ sW g b14 (0, 0, fun _ => 0)) ++ sW g b16 (0, 0, fun _ => 0)) ++ sW g b18 (0, 0, fun _ => 0)) ++ [(q19, .inl (g 0 0, 128, .inl (fun _ => 0)))]))) (hO.ok (Nat.le_of_ble_eq_true rfl) (Nat.le_of_ble_eq_true rfl)) d_Sx_init_115 hc_Sx f_Sx_43 0 rfl rfl rfl rfl (by decide) (Nat.le_of_ble_eq_true rfl) rfl ?_
  refine z_arrq (w' := ((a0, .inr (3, [.ref q1, .ref (b3 0), .ref (b5 0), .ref (b7 0), .ref (b9 0), .ref q10, .ref q19, .int 0])) :: (((((((((([(q1, .inl (g 0 0, 7, .inl (fun _ => 0)))] ++ rW g b3 zP0) ++ rW g b5 zP0) ++ rW g b7 zP0) ++ tW g b9 ((fun _ => 0), 0, 0, 0, 0, 0)) ++ [(q10, .inl (g 0 2, 4, .inr (.inr (.inr (.inr (fun j => some ((q_ad41 a0 q1 q10 q19 b3 b5 b7 b9 b12 b14 b16 b18) (32 + 2 * j))))))))]) ++ sW g b12 (0, 0, fun _ => 0)) ++ sW g b14 (0, 0, fun _ => 0)) ++ sW g b16 (0, 0, fun _ => 0)) ++ sW g b18 (0, 0, fun _ => 0)) ++ [(q19, .inl (g 0 0, 128, .inl (fun _ => 0)))]))) (f := (va_up (va_up (va_up (va_up (fun _ => none) 0 (some (b12 0))) 1 (some (b14 0))) 2 (some (b16 0))) 3 (some (b18 0)))) (f' := fun j => some ((q_ad41 a0 q1 q10 q19 b3 b5 b7 b9 b12 b14 b16 b18) (32 + 2 * j))) (hO.ok (Nat.le_of_ble_eq_true rfl) (Nat.le_of_ble_eq_true rfl)) 31 rfl (fun j hj => by
    rcases (show j = 0 ∨ j = 1 ∨ j = 2 ∨ j = 3 by omega) with rfl | rfl | rfl | rfl <;> rfl) rfl ?_
  exact z_rv (hR (q_ad41 a0 q1 q10 q19 b3 b5 b7 b9 b12 b14 b16 b18) rfl) d_Sx_init_118 (by
    rw [xW_mk (g := g) (a0 := a0) (q1 := q1) (q31 := q10) (q40 := q19) (b1 := b3) (b2 := b5) (b3 := b7) (b4 := b9) (c0 := b12) (c1 := b14) (c2 := b16) (c3 := b18) (ss := fun _ => (0, 0, fun _ => 0)) rfl rfl rfl rfl]
    simp only [List.cons_append, List.nil_append, zB_f])
