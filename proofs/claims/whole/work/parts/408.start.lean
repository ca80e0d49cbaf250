/-! ===== what stands still, at the law's start ===== -/
def znpl : List Nat := [88, 148, 175, 264, 267, 268, 283, 347, 621]
def zrpl : List Nat := [543, 607, 608, 609, 610, 611, 612, 626, 627, 629, 635, 647, 648, 649, 650, 651, 652, 654, 655, 656]
def zN0 : String × Nat × MethodName × String := ("", 0, ⟨"", "", ""⟩, "")
def zR0 : String × Nat × String := ("", 0, "")
theorem znl_len : zNl.length = 9 := rfl
theorem zrl_len : zRl.length = 20 := rfl
theorem znl_ok : ∀ i : Fin 9, lw_tbl[znpl.getD i.val 0]? = some (Cond.methodLinkNest (zNl.getD i.val zN0).1 (zNl.getD i.val zN0).2.1 (zNl.getD i.val zN0).2.2.1 (zNl.getD i.val zN0).2.2.2) := by decide +kernel
theorem zrl_ok : ∀ i : Fin 20, lw_tbl[zrpl.getD i.val 0]? = some (Cond.stringRef (zRl.getD i.val zR0).1 (zRl.getD i.val zR0).2.1 (zRl.getD i.val zR0).2.2) := by decide +kernel
def zFC : List Cond := flatC (Jvm.Cond.and given_1 narrow_1)
def ztm (i : Nat) : Term := .string (zRl.getD i zR0).1 (zRl.getD i zR0).2.1
theorem zf_ex : ∀ i : Fin 20, Cond.exactly (ztm i.val) "java/lang/String" ∈ zFC := by decide +kernel
theorem zf_co : ∀ i : Fin 20, Cond.eq (.field (ztm i.val) "java/lang/String" "coder" "B") (.int 0) ∈ zFC := by decide +kernel
theorem zf_ar : ∀ i : Fin 20, Cond.arrayOf (.field (ztm i.val) "java/lang/String" "value" "[B") .byte ∈ zFC := by decide +kernel
theorem zf_le : ∀ i : Fin 20, Cond.eq (.length (.field (ztm i.val) "java/lang/String" "value" "[B")) (.int (Int32.ofNat (zlen.getD i.val 0))) ∈ zFC := by decide +kernel
theorem zf_el : ∀ i : Fin 20, ∀ j : Fin 6, j.val < zlen.getD i.val 0 → Cond.eq (.elem (.field (ztm i.val) "java/lang/String" "value" "[B") (.int (Int32.ofNat j.val))) (.int ((zbyt.getD i.val []).getD j.val 0)) ∈ zFC := by decide +kernel
theorem zf_ne : ∀ i j : Fin 20, i.val ≠ j.val → (Cond.not (Cond.eq (ztm i.val) (ztm j.val)) ∈ zFC ∨ Cond.not (Cond.eq (ztm j.val) (ztm i.val)) ∈ zFC) := by decide +kernel
theorem zf_k : Cond.arrayOf (.static "SixFellows" "KIND_ABOVE" "[I") .int ∈ zFC ∧ Cond.eq (.length (.static "SixFellows" "KIND_ABOVE" "[I")) (.int (Int32.ofNat 6)) ∈ zFC ∧ ∀ j : Fin 6, Cond.eq (.elem (.static "SixFellows" "KIND_ABOVE" "[I") (.int (Int32.ofNat j.val))) (.int (zka j.val)) ∈ zFC := by decide +kernel
theorem zf_f : Cond.arrayOf (.static "SixFellows" "FACTORIALS" "[I") .int ∈ zFC ∧ Cond.eq (.length (.static "SixFellows" "FACTORIALS" "[I")) (.int (Int32.ofNat 8)) ∈ zFC ∧ ∀ j : Fin 8, Cond.eq (.elem (.static "SixFellows" "FACTORIALS" "[I") (.int (Int32.ofNat j.val))) (.int (zfa j.val)) ∈ zFC := by decide +kernel
theorem zf_w : Cond.arrayOf (.static "SixFellows" "WEIGHT_OF_ORDER" "[I") .int ∈ zFC ∧ Cond.eq (.length (.static "SixFellows" "WEIGHT_OF_ORDER" "[I")) (.int (Int32.ofNat 8)) ∈ zFC ∧ ∀ j : Fin 8, Cond.eq (.elem (.static "SixFellows" "WEIGHT_OF_ORDER" "[I") (.int (Int32.ofNat j.val))) (.int (zwt j.val)) ∈ zFC := by decide +kernel
theorem zf_c : Cond.eq (.static "java/lang/String" "COMPACT_STRINGS" "Z") (.int 1) ∈ zFC ∧ Cond.isRef (.static "jdk/internal/util/Preconditions" "SIOOBE_FORMATTER" "Ljava/util/function/BiFunction;") ∈ zFC := by decide +kernel
theorem zl_k : Cond.laysStatic "SixFellows" "KIND_ABOVE" "[I" ∈ lw_tbl ∧ Cond.laysStatic "SixFellows" "FACTORIALS" "[I" ∈ lw_tbl ∧ Cond.laysStatic "SixFellows" "WEIGHT_OF_ORDER" "[I" ∈ lw_tbl ∧ Cond.initialized "SixFellows" ∈ lw_tbl := ⟨List.mem_of_getElem? (i := 272) (by decide +kernel), List.mem_of_getElem? (i := 493) (by decide +kernel), List.mem_of_getElem? (i := 495) (by decide +kernel), List.mem_of_getElem? (i := 65) (by decide +kernel)⟩
theorem zl_c : Cond.laysStatic "java/lang/String" "COMPACT_STRINGS" "Z" ∈ lw_tbl ∧ Cond.initialized "java/lang/String" ∈ lw_tbl ∧ Cond.laysStatic "jdk/internal/util/Preconditions" "SIOOBE_FORMATTER" "Ljava/util/function/BiFunction;" ∈ lw_tbl ∧ Cond.initialized "jdk/internal/util/Preconditions" ∈ lw_tbl := ⟨List.mem_of_getElem? (i := 557) (by decide +kernel), List.mem_of_getElem? (i := 73) (by decide +kernel), List.mem_of_getElem? (i := 573) (by decide +kernel), List.mem_of_getElem? (i := 75) (by decide +kernel)⟩
theorem zl_a : Cond.arrayClass .int ∈ lw_tbl ∧ Cond.arrayClass .long ∈ lw_tbl ∧ Cond.arrayOver (.object "SixFellows$Sheet") ∈ lw_tbl := ⟨List.mem_of_getElem? (i := 145) (by decide +kernel), List.mem_of_getElem? (i := 192) (by decide +kernel), List.mem_of_getElem? (i := 173) (by decide +kernel)⟩
theorem z_arrA {args : Array Value} {s : State} {ty : FieldType} (he : ∀ C, ty ≠ .object C) (h : (Cond.arrayClass ty).before args s = true) : ∃ cA, ArrOfT s cA ty ∧ va_RA s cA ty := by
  obtain ⟨c, k, comp, h1, h2, h3⟩ := Cond.arrayClass_spec h
  refine ⟨c, fun n z => ⟨fun k h => (by cases h), k, h2, comp, h3⟩, ?_⟩
  cases ty with
  | object C => exact absurd rfl (he C)
  | _ => exact h1
theorem z_arrO {args : Array Value} {s : State} {C : String} (h : (Cond.arrayOver (.object C)).before args s = true) : ∃ cA, ArrOfT s cA (.object C) ∧ va_RA s cA (.object C) := by
  obtain ⟨comp, c, k, h1, h2, h3, h4, h5⟩ := Cond.arrayOver_spec h
  exact ⟨c, fun n z => ⟨fun k h => (by cases h), k, h3, comp, h4⟩, k, comp, h3, h4, h1, h5⟩
theorem z_begin {s : State} {args : Array Value} (hts : ∀ w ∈ lw_tbl, w.before args s = true) (hgv : (Jvm.Cond.and given_1 narrow_1).before args s = true) : ∃ (g : Nat → Nat → Nat) (D : va_G), zZ g (fun q => s.heap.size ≤ q) s s.heap ∧ va_K D zCl (ztys g) s ∧ va_AO zSO s := by
  have hs : ∀ c ∈ zFC, c.before args s = true := flat_of_before _ hgv
  have htz : ∀ w ∈ zT, w.before args s = true := fun w hw => hts w (List.mem_filter.mp hw).1
  have hA : ∀ a : Nat, a < s.heap.size → ¬ (fun q : Nat => s.heap.size ≤ q) a := fun a h => Nat.not_le.mpr h
  obtain ⟨cI, hI⟩ := z_arrA (ty := .int) (fun C h => by cases h) (hts _ zl_a.1)
  obtain ⟨cJ, hJ⟩ := z_arrA (ty := .long) (fun C h => by cases h) (hts _ zl_a.2.1)
  obtain ⟨cS, hS⟩ := z_arrO (hts _ zl_a.2.2)
  obtain ⟨t3, e3, hT3⟩ := va_Tof (A := fun q : Nat => s.heap.size ≤ q) (N := 6) (f := fun j => .int (zka j)) (by decide) (hs _ zf_k.1) (va_eqt (hs _ zf_k.2.1)) (fun j hj => va_eqt (hs _ (zf_k.2.2 ⟨j, hj⟩))) hA
  obtain ⟨t4, e4, hT4⟩ := va_Tof (A := fun q : Nat => s.heap.size ≤ q) (N := 8) (f := fun j => .int (zfa j)) (by decide) (hs _ zf_f.1) (va_eqt (hs _ zf_f.2.1)) (fun j hj => va_eqt (hs _ (zf_f.2.2 ⟨j, hj⟩))) hA
  obtain ⟨t5, e5, hT5⟩ := va_Tof (A := fun q : Nat => s.heap.size ≤ q) (N := 8) (f := fun j => .int (zwt j)) (by decide) (hs _ zf_w.1) (va_eqt (hs _ zf_w.2.1)) (fun j hj => va_eqt (hs _ (zf_w.2.2 ⟨j, hj⟩))) hA
  obtain ⟨adK, adV, hSt, hEv⟩ := vk_Sof (A := fun q : Nat => s.heap.size ≤ q) (N := 20) (tm := ztm) (len := zlen) (byt := zbyt) (args := args) (s := s) (fun i hi => Nat.lt_of_le_of_lt (zlen_lt hi) (by decide)) (fun i hi => hs _ (zf_ex ⟨i, hi⟩)) (fun i hi => hs _ (zf_co ⟨i, hi⟩)) (fun i hi => hs _ (zf_ar ⟨i, hi⟩)) (fun i hi => hs _ (zf_le ⟨i, hi⟩)) (fun i hi j hj => hs _ (zf_el ⟨i, hi⟩ ⟨j, Nat.lt_of_lt_of_le hj (zlen_lt hi)⟩ hj)) (fun i j hi hj hij => (zf_ne ⟨i, hi⟩ ⟨j, hj⟩ hij).imp (hs _) (hs _)) hA
  obtain ⟨c0, i0, hK0⟩ := u_known (C := "SixFellows$Road") (T := T_Rd) (N := 12) (n := 12) htz hc_Rd.2.1 (htz _ hI_Rd)
  obtain ⟨c1, i1, hK1⟩ := u_known (C := "SixFellows$Sheet") (T := T_Sh) (N := 3) (n := 3) htz hc_Sh.2.1 (htz _ hI_Sh)
  obtain ⟨c2, i2, hK2⟩ := u_known (C := "SixFellows$Tape") (T := T_Tp) (N := 6) (n := 6) htz hc_Tp.2.1 (htz _ hI_Tp)
  obtain ⟨c3, i3, hK3⟩ := u_known (C := "SixFellows") (T := T_Sx) (N := 8) (n := 8) htz hc_Sx.2.1 (htz _ hI_Sx)
  obtain ⟨c4, i4, hK4⟩ := u_known (C := "SixFellowsModel") (T := T_Mo) (N := 21) (n := 21) htz hc_Mo.2.1 (htz _ hI_Mo)
  refine ⟨fun x y => if x = 0 then (if y = 0 then cI else if y = 1 then cJ else if y = 2 then cS else if y = 3 then t3 else if y = 4 then t4 else t5) else if x = 1 then adK y else adV y, (fun k => if k = 0 then c0 else if k = 1 then c1 else if k = 2 then c2 else if k = 3 then c3 else c4, fun k => if k = 0 then i0 else if k = 1 then i1 else if k = 2 then i2 else if k = 3 then i3 else i4), ⟨?_, ?_, ⟨?_, ?_⟩, ⟨?_, ?_⟩, ⟨?_, ?_⟩, ⟨?_, ?_⟩, ?_⟩, ⟨?_, ?_⟩, hts _ zl_a.2.2⟩
  · intro q hq
    obtain ⟨i, hi⟩ := List.mem_iff_getElem?.mp hq
    have hl : i < zNl.length := (List.getElem?_eq_some_iff.mp hi).1
    have hg : zNl.getD i zN0 = q := by rw [List.getD_eq_getElem?_getD, hi]; rfl
    have hm := znl_ok ⟨i, hl⟩
    dsimp only at hm
    rw [hg] at hm
    exact va_Nw.of rfl (hts _ (List.mem_of_getElem? hm))
  · intro i q hq
    have hl : i < 20 := (List.getElem?_eq_some_iff.mp hq).1
    have hg : zRl.getD i zR0 = q := by rw [List.getD_eq_getElem?_getD, hq]; rfl
    have hm := zrl_ok ⟨i, hl⟩
    have he := hEv i hl
    dsimp only at hm
    unfold ztm at he
    rw [hg] at hm he
    exact vk_R.of (hts _ (List.mem_of_getElem? hm)) he
  · exact va_Zof (hts _ zl_k.1) (hts _ zl_k.2.2.2) e3 hA
  · exact hT3
  · exact va_Zof (hts _ zl_k.2.1) (hts _ zl_k.2.2.2) e4 hA
  · exact hT4
  · exact va_Zof (hts _ zl_k.2.2.1) (hts _ zl_k.2.2.2) e5 hA
  · exact hT5
  · exact va_Zof (hts _ zl_c.1) (hts _ zl_c.2.1) (va_eqi (hs _ zf_c.1)) hA
  · exact va_Zqof (hts _ zl_c.2.2.1) (hts _ zl_c.2.2.2) (hs _ zf_c.2) hA
  · exact hSt
  · intro k q hq
    match k, hq with
    | 0, hq => cases hq; exact hK0
    | 1, hq => cases hq; exact hK1
    | 2, hq => cases hq; exact hK2
    | 3, hq => cases hq; exact hK3
    | 4, hq => cases hq; exact hK4
    | k + 5, hq => exact absurd (List.getElem?_eq_some_iff.mp hq).1 (by simp [zCl])
  · intro k q hq
    match k, hq with
    | 0, hq => cases hq; exact hI
    | 1, hq => cases hq; exact hJ
    | 2, hq => cases hq; exact hS
    | k + 3, hq => exact absurd (List.getElem?_eq_some_iff.mp hq).1 (by simp)
