theorem q_lim {i L : Nat} (hi : i ≤ 3072) (hL : L ≤ 3072) (h : ¬ nI L - 6 < nI i) : i + 6 ≤ L := by
  have b1 : Int32.minValue.toInt = -2147483648 := by decide
  have b2 : Int32.maxValue.toInt = 2147483647 := by decide
  rw [nI_i, nI_i, show (6 : Int32) = Int32.ofInt 6 by decide, ← Int32.ofInt_sub, Int32.ofInt_lt_iff_lt (by omega) (by omega) (by omega) (by omega)] at h
  omega
set_option maxRecDepth 100000 in
theorem law_loop {g : Nat → Nat → Nat} {J : va_W → Nat → zLV → List Value → Prop} {a mb : Nat → Nat} {sb L : Nat} {xs : Nat → Int32} (hJ : zOK g J b_Lw_law 4 "SixFellowsLaw" room_1) (hsl : zSl J sb L xs) (hln : ∀ (w : va_W) (pc pc' : Nat) (lv : zLV) (st : List Value), zd b_Lw_law pc .arraylength 1 pc' → J w pc' lv (.int (nI L) :: st) → J w pc lv (.ref sb :: st)) (hL : L ≤ 3072) (hret : ∀ (w : va_W) (lv : zLV), J w 1331 lv [.int 1]) : ∀ m i w, L - i = m → i ≤ 3072 → zLw g a mb w → J w 18 [(0, .ref sb), (1, .ref (a 0)), (2, .ref (mb 0)), (3, .int (nI i))] [] := by
  refine zloopd (fun m ih => ?_)
  intro i w hm hi hw
  refine z_iload_n hJ d_Lw_law_18 3 rfl ?_
  refine z_aload_n hJ d_Lw_law_19 0 rfl ?_
  refine hln _ _ _ _ _ d_Lw_law_20 ?_
  refine z_bipush (v := 6) hJ d_Lw_law_21 (by decide) ?_
  refine z_isub hJ d_Lw_law_23 ?_
  refine z_icmp_gt hJ d_Lw_law_24 (fun _ => ?_) (fun c => ?_)
  · refine z_iconst (v := 1) hJ d_Lw_law_1330 (by decide) ?_
    exact hret _ _
  · have hi6 := q_lim hi hL c
    have k : ∀ w', zLw g a mb w' → J w' 1324 [(0, .ref sb), (1, .ref (a 0)), (2, .ref (mb 0)), (3, .int (nI i))] [] := by
      intro w' hw'
      refine z_iinc (v := nI (i + 6)) (lv' := [(0, _), (1, _), (2, _), (3, _)]) hJ d_Lw_law_1324 3 rfl (nI_add i 6) (by decide) rfl ?_
      refine z_goto hJ d_Lw_law_1327 ?_
      exact ih (L - (i + 6)) (by omega) (i + 6) w' rfl (by omega) hw'
    refine z_aload_n hJ d_Lw_law_27 0 rfl ?_
    refine z_iload_n hJ d_Lw_law_28 3 rfl ?_
    refine hsl _ _ _ _ _ i d_Lw_law_29 (by omega) ?_
    refine z_bipush (v := 63) hJ d_Lw_law_30 (by decide) ?_
    refine z_iand hJ d_Lw_law_32 ?_
    refine z_sw (tgt := 1324) [(0, 216), (1, 249), (2, 282), (3, 325), (4, 358), (5, 391), (6, 424), (7, 477), (8, 510), (9, 543), (10, 566), (11, 589), (12, 612), (13, 635), (14, 658), (15, 671), (16, 694), (17, 717), (18, 730), (19, 743), (20, 766), (21, 789), (22, 802), (23, 815), (24, 848), (25, 871), (26, 895), (27, 908), (28, 931), (29, 964), (30, 977), (31, 990), (32, 1033), (33, 1107), (34, 1170), (35, 1193), (36, 1216), (37, 1239), (38, 1252), (39, 1265), (40, 1278), (41, 1301)] hJ d_Lw_law_33 (by decide +kernel) (by decide) ?_ (fun _ => k _ hw)
    intro q hq e
    simp only [List.mem_cons, List.not_mem_nil, or_false] at hq
    rcases hq with rfl | rfl | rfl | rfl | rfl | rfl | rfl | rfl | rfl | rfl | rfl | rfl | rfl | rfl | rfl | rfl | rfl | rfl | rfl | rfl | rfl | rfl | rfl | rfl | rfl | rfl | rfl | rfl | rfl | rfl | rfl | rfl | rfl | rfl | rfl | rfl | rfl | rfl | rfl | rfl | rfl | rfl
    · exact lc_fellow hJ hsl hi6 hw k
    · exact lc_of hJ hsl hi6 hw k
    · exact lc_set hJ hsl hi6 hw k
    · exact lc_turn hJ hsl hi6 hw k
    · exact lc_as hJ hsl hi6 hw k
    · exact lc_does hJ hsl hi6 hw k
    · exact lc_task hJ hsl hi6 hw k
    · exact lc_taskOf hJ hsl hi6 hw k
    · exact lc_helps hJ hsl hi6 hw k
    · exact lc_done hJ hsl hi6 hw k
    · exact lc_hours hJ hsl hi6 hw k
    · exact lc_now hJ hsl hi6 hw k
    · exact lc_on hJ hsl hi6 hw k
    · exact lc_when hJ hsl hi6 hw k
    · exact lc_best hJ hsl hi6 hw k
    · exact lc_stand hJ hsl hi6 hw k
    · exact lc_kind hJ hsl hi6 hw k
    · exact lc_awake hJ hsl hi6 hw k
    · exact lc_most hJ hsl hi6 hw k
    · exact lc_fewest hJ hsl hi6 hw k
    · exact lc_who hJ hsl hi6 hw k
    · exact lc_spoils hJ hsl hi6 hw k
    · exact lc_learn hJ hsl hi6 hw k
    · exact lc_skill hJ hsl hi6 hw k
    · exact lc_missed hJ hsl hi6 hw k
    · exact lc_share hJ hsl hi6 hw k
    · exact lc_first hJ hsl hi6 hw k
    · exact lc_sets hJ hsl hi6 hw k
    · exact lc_feed hJ hsl hi6 hw k
    · exact lc_wipe hJ hsl hi6 hw k
    · exact lc_road hJ hsl hi6 hw k
    · exact lc_sheet hJ hsl hi6 hw k
    · exact lc_write hJ hsl hi6 hw k
    · exact lc_copy hJ hsl hi6 hw k
    · exact lc_lays hJ hsl hi6 hw k
    · exact lc_book hJ hsl hi6 hw k
    · exact lc_read hJ hsl hi6 hw k
    · exact lc_image hJ hsl hi6 hw k
    · exact lc_undo hJ hsl hi6 hw k
    · exact lc_tear hJ hsl hi6 hw k
    · exact lc_count hJ hsl hi6 hw k
    · exact lc_status hJ hsl hi6 hw k
