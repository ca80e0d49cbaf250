def T_Rd : u_T := fun k => match k with
  | 0 => ("SixFellows$Road", "hour", "I", false)
  | 1 => ("SixFellows$Road", "fellowCount", "I", false)
  | 2 => ("SixFellows$Road", "taskCount", "I", false)
  | 3 => ("SixFellows$Road", "asleep", "I", false)
  | 4 => ("SixFellows$Road", "kinds", "[I", true)
  | 5 => ("SixFellows$Road", "miles", "[I", true)
  | 6 => ("SixFellows$Road", "goals", "[I", true)
  | 7 => ("SixFellows$Road", "skills", "[I", true)
  | 8 => ("SixFellows$Road", "sorts", "[I", true)
  | 9 => ("SixFellows$Road", "taskMiles", "[I", true)
  | 10 => ("SixFellows$Road", "needs", "[I", true)
  | _ => ("SixFellows$Road", "pays", "[I", true)
def ty_Rd : Nat → FieldType := fun k => match k with
  | 0 => .int
  | 1 => .int
  | 2 => .int
  | 3 => .int
  | 4 => .array .int
  | 5 => .array .int
  | 6 => .array .int
  | 7 => .array .int
  | 8 => .array .int
  | 9 => .array .int
  | 10 => .array .int
  | _ => .array .int
def T_Sh : u_T := fun k => match k with
  | 0 => ("SixFellows$Sheet", "bits", "I", false)
  | 1 => ("SixFellows$Sheet", "size", "I", false)
  | _ => ("SixFellows$Sheet", "numbers", "[J", true)
def ty_Sh : Nat → FieldType := fun k => match k with
  | 0 => .int
  | 1 => .int
  | _ => .array .long
def T_Tp : u_T := fun k => match k with
  | 0 => ("SixFellows$Tape", "bytes", "[I", true)
  | 1 => ("SixFellows$Tape", "size", "I", false)
  | 2 => ("SixFellows$Tape", "token", "I", false)
  | 3 => ("SixFellows$Tape", "start", "I", false)
  | 4 => ("SixFellows$Tape", "end", "I", false)
  | _ => ("SixFellows$Tape", "number", "I", false)
def ty_Tp : Nat → FieldType := fun k => match k with
  | 0 => .array .int
  | 1 => .int
  | 2 => .int
  | 3 => .int
  | 4 => .int
  | _ => .int
def T_Sx : u_T := fun k => match k with
  | 0 => ("SixFellows", "found", "[I", true)
  | 1 => ("SixFellows", "present", "LSixFellows$Road;", true)
  | 2 => ("SixFellows", "kept", "LSixFellows$Road;", true)
  | 3 => ("SixFellows", "trial", "LSixFellows$Road;", true)
  | 4 => ("SixFellows", "tape", "LSixFellows$Tape;", true)
  | 5 => ("SixFellows", "sheets", "[LSixFellows$Sheet;", true)
  | 6 => ("SixFellows", "earnedBySet", "[I", true)
  | _ => ("SixFellows", "isKept", "Z", false)
def ty_Sx : Nat → FieldType := fun k => match k with
  | 0 => .array .int
  | 1 => .object "SixFellows$Road"
  | 2 => .object "SixFellows$Road"
  | 3 => .object "SixFellows$Road"
  | 4 => .object "SixFellows$Tape"
  | 5 => .array (.object "SixFellows$Sheet")
  | 6 => .array .int
  | _ => .boolean
def T_Mo : u_T := fun k => match k with
  | 0 => ("SixFellowsModel", "row", "[I", true)
  | 1 => ("SixFellowsModel", "found", "[I", true)
  | 2 => ("SixFellowsModel", "alone", "I", false)
  | 3 => ("SixFellowsModel", "tried", "[I", true)
  | 4 => ("SixFellowsModel", "worth", "[I", true)
  | 5 => ("SixFellowsModel", "shares", "[J", true)
  | 6 => ("SixFellowsModel", "tape", "[I", true)
  | 7 => ("SixFellowsModel", "tapeMany", "I", false)
  | 8 => ("SixFellowsModel", "sort", "I", false)
  | 9 => ("SixFellowsModel", "begins", "I", false)
  | 10 => ("SixFellowsModel", "tokenEnds", "I", false)
  | 11 => ("SixFellowsModel", "word", "J", false)
  | 12 => ("SixFellowsModel", "value", "I", false)
  | 13 => ("SixFellowsModel", "good", "Z", false)
  | 14 => ("SixFellowsModel", "bitsOf", "[I", true)
  | 15 => ("SixFellowsModel", "sizeOf", "[I", true)
  | 16 => ("SixFellowsModel", "sheets", "[J", true)
  | 17 => ("SixFellowsModel", "lent", "[J", true)
  | 18 => ("SixFellowsModel", "image", "[I", true)
  | 19 => ("SixFellowsModel", "before", "[I", true)
  | _ => ("SixFellowsModel", "isKept", "Z", false)
def ty_Mo : Nat → FieldType := fun k => match k with
  | 0 => .array .int
  | 1 => .array .int
  | 2 => .int
  | 3 => .array .int
  | 4 => .array .int
  | 5 => .array .long
  | 6 => .array .int
  | 7 => .int
  | 8 => .int
  | 9 => .int
  | 10 => .int
  | 11 => .long
  | 12 => .int
  | 13 => .boolean
  | 14 => .array .int
  | 15 => .array .int
  | 16 => .array .long
  | 17 => .array .long
  | 18 => .array .int
  | 19 => .array .int
  | _ => .boolean
abbrev zCl : List vw_C := [("SixFellows$Road", T_Rd, 12), ("SixFellows$Sheet", T_Sh, 3), ("SixFellows$Tape", T_Tp, 6), ("SixFellows", T_Sx, 8), ("SixFellowsModel", T_Mo, 21)]
/-! ===== the logic of this claim: a judgement over worlds, locals and stacks alone; the machine is hidden in zOK ===== -/
abbrev zLV : Type := List (Nat × Value)
def zr (d : Nat) : Room := { frames := d, cells := 0, slots := 0, locals := 40 * d }
def zT : List Cond := lw_tbl.filter goodWord
theorem zin {w : Cond} (i : Nat) (h : lw_tbl[i]? = some w) (hg : goodWord w = true) : w ∈ zT := List.mem_filter.mpr ⟨List.mem_of_getElem? h, hg⟩
def zws (y : MethodName) (cc : ByteArray) (nL : Nat) (ret : Option FieldType) : List Cond := Cond.code y cc nL ret :: zT
theorem zgd {y : MethodName} {cc : ByteArray} {nL : Nat} {ret : Option FieldType} (h : Cond.code y cc nL ret ∈ zT) : GoodIn zT (zws y cc nL ret) := by
  intro w hw
  rcases List.mem_cons.mp hw with rfl | h2
  · exact ⟨h, good_of_word (List.mem_filter.mp h).2⟩
  · exact ⟨h2, good_of_word (List.mem_filter.mp h2).2⟩
def zB (b : Bool) : Int32 := if b then 1 else 0
theorem zB_t : zB true = 1 := rfl
theorem zB_f : zB false = 0 := rfl
theorem zB_0 {b : Bool} (h : zB b = 0) : b = false := by
  cases b
  · rfl
  · exact absurd h (by decide)
theorem zB_1 {b : Bool} (h : ¬ zB b = 0) : b = true := by
  cases b
  · exact absurd rfl h
  · rfl
theorem zB_nar (b : Bool) : narrow .boolean (.int (zB b)) = .int (zB b) := by cases b <;> rfl
theorem zB_fit (b : Bool) : fits .boolean (.int (zB b)) = true := by cases b <;> rfl
/-- links between nest mates -/
def zNl : List (String × Nat × MethodName × String) := [("SixFellows", 15, ⟨"SixFellows$Road", "<init>", "()V"⟩, "SixFellows"), ("SixFellows", 28, ⟨"SixFellows$Tape", "<init>", "()V"⟩, "SixFellows"), ("SixFellows", 35, ⟨"SixFellows$Sheet", "<init>", "()V"⟩, "SixFellows"), ("SixFellows$Road", 63, ⟨"SixFellows", "spoilerOf", "(I)I"⟩, "SixFellows"), ("SixFellows$Road", 55, ⟨"SixFellows", "has", "(II)Z"⟩, "SixFellows"), ("SixFellows$Road", 67, ⟨"SixFellows", "isOfKind", "(II)Z"⟩, "SixFellows"), ("SixFellows$Road", 99, ⟨"SixFellows", "paceOf", "(I)I"⟩, "SixFellows"), ("SixFellows$Road", 78, ⟨"SixFellows", "workOf", "(III)I"⟩, "SixFellows"), ("SixFellows$Tape", 142, ⟨"SixFellows", "isWithin", "(III)Z"⟩, "SixFellows")]
/-- the String constants -/
def zRl : List (String × Nat × String) := [("SixFellows$Tape", 38, "task"), ("SixFellows$Tape", 132, "run"), ("SixFellows$Tape", 134, "shoot"), ("SixFellows$Tape", 136, "blow"), ("SixFellows$Tape", 138, "freeze"), ("SixFellows$Tape", 140, "carry"), ("SixFellows$Tape", 67, "at"), ("SixFellows$Tape", 105, "need"), ("SixFellows$Tape", 107, "pay"), ("SixFellows$Tape", 47, "wake"), ("SixFellows$Tape", 53, "sleep"), ("SixFellows$Tape", 117, "fellow"), ("SixFellows$Tape", 119, "runner"), ("SixFellows$Tape", 121, "hunter"), ("SixFellows$Tape", 123, "blower"), ("SixFellows$Tape", 125, "legged"), ("SixFellows$Tape", 127, "hatted"), ("SixFellows$Tape", 83, "goes"), ("SixFellows$Tape", 88, "skill"), ("SixFellows$Tape", 93, "asleep")]
def zlen : List Nat := [4, 3, 5, 4, 6, 5, 2, 4, 3, 4, 5, 6, 6, 6, 6, 6, 6, 4, 5, 6]
def zbyt : List (List Int32) := [[116, 97, 115, 107], [114, 117, 110], [115, 104, 111, 111, 116], [98, 108, 111, 119], [102, 114, 101, 101, 122, 101], [99, 97, 114, 114, 121], [97, 116], [110, 101, 101, 100], [112, 97, 121], [119, 97, 107, 101], [115, 108, 101, 101, 112], [102, 101, 108, 108, 111, 119], [114, 117, 110, 110, 101, 114], [104, 117, 110, 116, 101, 114], [98, 108, 111, 119, 101, 114], [108, 101, 103, 103, 101, 100], [104, 97, 116, 116, 101, 100], [103, 111, 101, 115], [115, 107, 105, 108, 108], [97, 115, 108, 101, 101, 112]]
def zka (j : Nat) : Int32 := ([-1, 0, 0, 0, 1, 3] : List Int32).getD j 0
def zfa (j : Nat) : Int32 := ([1, 1, 2, 6, 24, 120, 720, 5040] : List Int32).getD j 0
def zwt (j : Nat) : Int32 := ([5040, 5040, 2520, 840, 210, 42, 7, 1] : List Int32).getD j 0
/-- what stands still: links, constants, static arrays. g 0: array classes and static arrays, g 1: texts, g 2: their bytes -/
def zZ (g : Nat → Nat → Nat) (A : Nat → Prop) (U : State) (H : Heap) : Prop :=
  (∀ q ∈ zNl, va_Nw (.methodLinkNest q.1 q.2.1 q.2.2.1 q.2.2.2) U) ∧
  (∀ (i : Nat) (q : String × Nat × String), zRl[i]? = some q → vk_R q.1 q.2.1 q.2.2 (g 1 i) U) ∧
  (va_Z "SixFellows" "KIND_ABOVE" "[I" (.ref (g 0 3)) A U H ∧ va_T .int (g 0 3) 6 (fun j => .int (zka j)) A U H) ∧
  (va_Z "SixFellows" "FACTORIALS" "[I" (.ref (g 0 4)) A U H ∧ va_T .int (g 0 4) 8 (fun j => .int (zfa j)) A U H) ∧
  (va_Z "SixFellows" "WEIGHT_OF_ORDER" "[I" (.ref (g 0 5)) A U H ∧ va_T .int (g 0 5) 8 (fun j => .int (zwt j)) A U H) ∧
  (va_Z "java/lang/String" "COMPACT_STRINGS" "Z" (.int 1) A U H ∧ va_Zq "jdk/internal/util/Preconditions" "SIOOBE_FORMATTER" "Ljava/util/function/BiFunction;" A U H) ∧
  vk_S 20 zlen zbyt (g 1) (g 2) A U H
theorem zZ.call {g : Nat → Nat → Nat} {A B : Nat → Prop} {s U : State} {H : Heap} {locs : List Loc} (h : zZ g A s s.heap) (hS : va_S A s.heap H locs) (hU : U.heap = H) (hW : s.WarmedH U.vm) (hB : ∀ q, B q → A q) : zZ g B U U.heap := by
  obtain ⟨h1, h2, ⟨h3, h4⟩, ⟨h5, h6⟩, ⟨h7, h8⟩, ⟨h9, h11⟩, h10⟩ := h
  rw [hU]
  have hk : ∀ a : Nat, a < s.heap.size → ¬ A a → H[a]? = s.heap[a]? := hS.2.1
  have ha := hW.alike
  exact ⟨fun q hq => va_Nw.warmM hW (h1 q hq), fun i q hq => vk_R.warm hW (h2 i q hq), ⟨((h3.kept hk).moved ha).narrow hB, ((h4.kept hk).moved ha).narrow hB⟩, ⟨((h5.kept hk).moved ha).narrow hB, ((h6.kept hk).moved ha).narrow hB⟩, ⟨((h7.kept hk).moved ha).narrow hB, ((h8.kept hk).moved ha).narrow hB⟩, ⟨((h9.kept hk).moved ha).narrow hB, ((h11.kept hk).moved ha).narrow hB⟩, ((h10.kept hk).moved ha).narrow hB⟩
theorem zZ.blind {g : Nat → Nat → Nat} {A : Nat → Prop} {U : State} {f : JFrame} {mk : MethodId} {a : Array Value} (h : zZ g A U U.heap) : zZ g A (U.calling f mk a) (U.calling f mk a).heap := by
  obtain ⟨h1, h2, ⟨h3, h4⟩, ⟨h5, h6⟩, ⟨h7, h8⟩, ⟨h9, h11⟩, h10⟩ := h
  have ha : U.vm.Alike (U.calling f mk a).vm := Vm.Alike.refl U.vm
  exact ⟨fun q hq => va_Nw.same rfl (u := U) rfl (h1 q hq), fun i q hq => vk_R.same (u := U) rfl (h2 i q hq), ⟨h3.moved ha, h4.moved ha⟩, ⟨h5.moved ha, h6.moved ha⟩, ⟨h7.moved ha, h8.moved ha⟩, ⟨h9.moved ha, h11.moved ha⟩, h10.moved ha⟩
abbrev ztys (g : Nat → Nat → Nat) : List (ClassId × FieldType) := [(g 0 0, .int), (g 0 1, .long), (g 0 2, .object "SixFellows$Sheet")]
def zJ (p : Program) (l : Launch) (e : Env) (R : Room) (s : State) (m : MethodId) (args : Array Value) (below : List Frame) (meth : Method) (c : Code) (D : va_G) (A : Nat → Prop) (nL cells slots : Nat) (Q : State → Prop) : va_W → Nat → zLV → List Value → Prop := fun w pc lv st =>
  ∀ (H : Heap) (locs : List Loc) (ls : Array Slot), va_P D zCl w H → va_D A w → va_S A s.heap H locs → lv_has ls nL lv → W p l e R s m args below meth c H locs cells slots Q (F0 m pc ls st)
def zOK (g : Nat → Nat → Nat) (J : va_W → Nat → zLV → List Value → Prop) (cc : ByteArray) (nL : Nat) (own : String) (R : Room) : Prop :=
  ∃ (p : Program) (l : Launch) (e : Env) (s : State) (m : MethodId) (args : Array Value) (below : List Frame) (meth : Method) (c : Code) (D : va_G) (A : Nat → Prop) (cells slots : Nat) (Q : State → Prop),
    J = zJ p l e R s m args below meth c D A nL cells slots Q ∧ p.tables.exec = Jvm.exec ∧ c.code = cc ∧ c.maxLocals = nL ∧ s.vm.findClass own = some m.cls ∧ (∀ w ∈ zT, w.before args s = true) ∧ meth.locks = false ∧ va_K D zCl (ztys g) s ∧ zZ g A s s.heap ∧ (∀ q : Nat, s.heap.size ≤ q → A q) ∧ cells ≤ R.cells ∧ slots ≤ R.slots
/-- an instruction at pc, its length, where the next one stands -/
def zd (cc : ByteArray) (pc : Nat) (i : Instr) (n pc' : Nat) : Prop := decode cc pc = .ok (i, n) ∧ pc + n = pc'
/-- and where it jumps to -/
def zj (cc : ByteArray) (pc : Nat) (i : Instr) (n pc' : Nat) (off : Int) (tgt : Nat) : Prop := decode cc pc = .ok (i, n) ∧ pc + n = pc' ∧ (pc : Int) + off = (tgt : Int)
def zins : zLV → Nat → Value → zLV
  | [], i, v => [(i, v)]
  | (j, u) :: l, i, v => if i < j then (i, v) :: (j, u) :: l else (j, u) :: zins l i v
theorem zins_mem {q : Nat × Value} : ∀ {l : zLV} {i : Nat} {v : Value}, q ∈ zins l i v → q ∈ (i, v) :: l
  | [], i, v, h => h
  | (j, u) :: l, i, v, h => by
    unfold zins at h
    by_cases hij : i < j
    · rw [if_pos hij] at h
      exact h
    · rw [if_neg hij] at h
      rcases List.mem_cons.mp h with rfl | h2
      · exact List.mem_cons_of_mem _ List.mem_cons_self
      · rcases List.mem_cons.mp (zins_mem h2) with rfl | h3
        · exact List.mem_cons_self
        · exact List.mem_cons_of_mem _ (List.mem_cons_of_mem _ h3)
def zst (lv : zLV) (i : Nat) (v : Value) : zLV := zins (lv.filter (fun q => !(q.1 == i) && !(q.1 + 1 == i && q.2.category == 2))) i v
def zst2 (lv : zLV) (i : Nat) (v : Value) : zLV := zins (lv.filter (fun q => !(q.1 == i) && (!(q.1 == i + 1) && !(q.1 + 1 == i && q.2.category == 2)))) i v
theorem lv_has.less {ls : Array Slot} {nL : Nat} {l l' : zLV} (h : lv_has ls nL l) (hs : ∀ q ∈ l', q ∈ l) : lv_has ls nL l' := ⟨h.1, h.2.1, fun q hq => h.2.2 q (hs q hq)⟩
/-- what is known of number ci -/
def zCls (ci : Nat) (C : String) (T : u_T) (N : Nat) (ty : Nat → FieldType) : Prop := zCl[ci]? = some (C, T, N) ∧ (∀ w ∈ u_ws C T N, w ∈ zT) ∧ (∀ k, k < N → parseFieldDescriptor (T k).2.2.1 = some (ty k)) ∧ (∀ a, a < N → ∀ b, b < N → a ≠ b → (T a).2.1 ≠ (T b).2.1)
def zFl (own : String) (idx : Nat) (T : u_T) (k : Nat) : Prop := Cond.fieldLink own idx (T k).1 (T k).2.1 (T k).2.2.1 ∈ zT
section zRules
variable {g : Nat → Nat → Nat} {J : va_W → Nat → zLV → List Value → Prop} {cc : ByteArray} {nL : Nat} {own : String} {R : Room} {w w' : va_W} {pc pc' : Nat} {lv lv' : zLV} {st : List Value}
theorem z_iadd {x y : Int32} (h : zOK g J cc nL own R) (hd : zd cc pc (.iadd) 1 pc')  (k : J w pc' lv (.int (x + y) :: st)) : J w pc lv (.int y :: .int x :: st) := by
  obtain ⟨p, l, e, s, m, args, below, meth, c, D, A, cells, slots, Q, rfl, hx, hb, hml, hown, hts, hlk, hK, hZ, hA, hcc, hss⟩ := h
  obtain ⟨hd, rfl⟩ := hd
  intro H locs ls hP hD hS hl
  exact lv_iadd hx hb hd (k H locs ls hP hD hS hl)
theorem z_isub {x y : Int32} (h : zOK g J cc nL own R) (hd : zd cc pc (.isub) 1 pc')  (k : J w pc' lv (.int (x - y) :: st)) : J w pc lv (.int y :: .int x :: st) := by
  obtain ⟨p, l, e, s, m, args, below, meth, c, D, A, cells, slots, Q, rfl, hx, hb, hml, hown, hts, hlk, hK, hZ, hA, hcc, hss⟩ := h
  obtain ⟨hd, rfl⟩ := hd
  intro H locs ls hP hD hS hl
  exact lv_isub hx hb hd (k H locs ls hP hD hS hl)
theorem z_imul {x y : Int32} (h : zOK g J cc nL own R) (hd : zd cc pc (.imul) 1 pc')  (k : J w pc' lv (.int (x * y) :: st)) : J w pc lv (.int y :: .int x :: st) := by
  obtain ⟨p, l, e, s, m, args, below, meth, c, D, A, cells, slots, Q, rfl, hx, hb, hml, hown, hts, hlk, hK, hZ, hA, hcc, hss⟩ := h
  obtain ⟨hd, rfl⟩ := hd
  intro H locs ls hP hD hS hl
  exact lv_imul hx hb hd (k H locs ls hP hD hS hl)
theorem z_iand {x y : Int32} (h : zOK g J cc nL own R) (hd : zd cc pc (.iand) 1 pc')  (k : J w pc' lv (.int (x &&& y) :: st)) : J w pc lv (.int y :: .int x :: st) := by
  obtain ⟨p, l, e, s, m, args, below, meth, c, D, A, cells, slots, Q, rfl, hx, hb, hml, hown, hts, hlk, hK, hZ, hA, hcc, hss⟩ := h
  obtain ⟨hd, rfl⟩ := hd
  intro H locs ls hP hD hS hl
  exact lv_iand hx hb hd (k H locs ls hP hD hS hl)
theorem z_ior {x y : Int32} (h : zOK g J cc nL own R) (hd : zd cc pc (.ior) 1 pc')  (k : J w pc' lv (.int (x ||| y) :: st)) : J w pc lv (.int y :: .int x :: st) := by
  obtain ⟨p, l, e, s, m, args, below, meth, c, D, A, cells, slots, Q, rfl, hx, hb, hml, hown, hts, hlk, hK, hZ, hA, hcc, hss⟩ := h
  obtain ⟨hd, rfl⟩ := hd
  intro H locs ls hP hD hS hl
  exact lv_ior hx hb hd (k H locs ls hP hD hS hl)
theorem z_ixor {x y : Int32} (h : zOK g J cc nL own R) (hd : zd cc pc (.ixor) 1 pc')  (k : J w pc' lv (.int (x ^^^ y) :: st)) : J w pc lv (.int y :: .int x :: st) := by
  obtain ⟨p, l, e, s, m, args, below, meth, c, D, A, cells, slots, Q, rfl, hx, hb, hml, hown, hts, hlk, hK, hZ, hA, hcc, hss⟩ := h
  obtain ⟨hd, rfl⟩ := hd
  intro H locs ls hP hD hS hl
  exact lv_ixor hx hb hd (k H locs ls hP hD hS hl)
theorem z_ishl {x y : Int32} (h : zOK g J cc nL own R) (hd : zd cc pc (.ishl) 1 pc')  (k : J w pc' lv (.int (x <<< (y &&& 31)) :: st)) : J w pc lv (.int y :: .int x :: st) := by
  obtain ⟨p, l, e, s, m, args, below, meth, c, D, A, cells, slots, Q, rfl, hx, hb, hml, hown, hts, hlk, hK, hZ, hA, hcc, hss⟩ := h
  obtain ⟨hd, rfl⟩ := hd
  intro H locs ls hP hD hS hl
  exact lv_ishl hx hb hd (k H locs ls hP hD hS hl)
theorem z_ishr {x y : Int32} (h : zOK g J cc nL own R) (hd : zd cc pc (.ishr) 1 pc')  (k : J w pc' lv (.int (x >>> (y &&& 31)) :: st)) : J w pc lv (.int y :: .int x :: st) := by
  obtain ⟨p, l, e, s, m, args, below, meth, c, D, A, cells, slots, Q, rfl, hx, hb, hml, hown, hts, hlk, hK, hZ, hA, hcc, hss⟩ := h
  obtain ⟨hd, rfl⟩ := hd
  intro H locs ls hP hD hS hl
  exact lv_ishr hx hb hd (k H locs ls hP hD hS hl)
theorem z_idiv {x y : Int32} (h : zOK g J cc nL own R) (hd : zd cc pc (.idiv) 1 pc') (hne : ¬ y = 0) (k : J w pc' lv (.int (x / y) :: st)) : J w pc lv (.int y :: .int x :: st) := by
  obtain ⟨p, l, e, s, m, args, below, meth, c, D, A, cells, slots, Q, rfl, hx, hb, hml, hown, hts, hlk, hK, hZ, hA, hcc, hss⟩ := h
  obtain ⟨hd, rfl⟩ := hd
  intro H locs ls hP hD hS hl
  exact lv_idiv hx hb hd hne (k H locs ls hP hD hS hl)
theorem z_ineg {x : Int32} (h : zOK g J cc nL own R) (hd : zd cc pc (.ineg) 1 pc')  (k : J w pc' lv (.int (-x) :: st)) : J w pc lv (.int x :: st) := by
  obtain ⟨p, l, e, s, m, args, below, meth, c, D, A, cells, slots, Q, rfl, hx, hb, hml, hown, hts, hlk, hK, hZ, hA, hcc, hss⟩ := h
  obtain ⟨hd, rfl⟩ := hd
  intro H locs ls hP hD hS hl
  exact lv_ineg hx hb hd (k H locs ls hP hD hS hl)
theorem z_ladd {x y : Int64} (h : zOK g J cc nL own R) (hd : zd cc pc (.ladd) 1 pc')  (k : J w pc' lv (.long (x + y) :: st)) : J w pc lv (.long y :: .long x :: st) := by
  obtain ⟨p, l, e, s, m, args, below, meth, c, D, A, cells, slots, Q, rfl, hx, hb, hml, hown, hts, hlk, hK, hZ, hA, hcc, hss⟩ := h
  obtain ⟨hd, rfl⟩ := hd
  intro H locs ls hP hD hS hl
  exact lv_ladd hx hb hd (k H locs ls hP hD hS hl)
theorem z_lsub {x y : Int64} (h : zOK g J cc nL own R) (hd : zd cc pc (.lsub) 1 pc')  (k : J w pc' lv (.long (x - y) :: st)) : J w pc lv (.long y :: .long x :: st) := by
  obtain ⟨p, l, e, s, m, args, below, meth, c, D, A, cells, slots, Q, rfl, hx, hb, hml, hown, hts, hlk, hK, hZ, hA, hcc, hss⟩ := h
  obtain ⟨hd, rfl⟩ := hd
  intro H locs ls hP hD hS hl
  exact lv_lsub hx hb hd (k H locs ls hP hD hS hl)
theorem z_lmul {x y : Int64} (h : zOK g J cc nL own R) (hd : zd cc pc (.lmul) 1 pc')  (k : J w pc' lv (.long (x * y) :: st)) : J w pc lv (.long y :: .long x :: st) := by
  obtain ⟨p, l, e, s, m, args, below, meth, c, D, A, cells, slots, Q, rfl, hx, hb, hml, hown, hts, hlk, hK, hZ, hA, hcc, hss⟩ := h
  obtain ⟨hd, rfl⟩ := hd
  intro H locs ls hP hD hS hl
  exact lv_lmul hx hb hd (k H locs ls hP hD hS hl)
theorem z_land {x y : Int64} (h : zOK g J cc nL own R) (hd : zd cc pc (.land) 1 pc')  (k : J w pc' lv (.long (x &&& y) :: st)) : J w pc lv (.long y :: .long x :: st) := by
  obtain ⟨p, l, e, s, m, args, below, meth, c, D, A, cells, slots, Q, rfl, hx, hb, hml, hown, hts, hlk, hK, hZ, hA, hcc, hss⟩ := h
  obtain ⟨hd, rfl⟩ := hd
  intro H locs ls hP hD hS hl
  exact lv_land hx hb hd (k H locs ls hP hD hS hl)
theorem z_lor {x y : Int64} (h : zOK g J cc nL own R) (hd : zd cc pc (.lor) 1 pc')  (k : J w pc' lv (.long (x ||| y) :: st)) : J w pc lv (.long y :: .long x :: st) := by
  obtain ⟨p, l, e, s, m, args, below, meth, c, D, A, cells, slots, Q, rfl, hx, hb, hml, hown, hts, hlk, hK, hZ, hA, hcc, hss⟩ := h
  obtain ⟨hd, rfl⟩ := hd
  intro H locs ls hP hD hS hl
  exact lv_lor hx hb hd (k H locs ls hP hD hS hl)
theorem z_ldiv {x y : Int64} (h : zOK g J cc nL own R) (hd : zd cc pc (.ldiv) 1 pc') (hne : ¬ y = 0) (k : J w pc' lv (.long (x / y) :: st)) : J w pc lv (.long y :: .long x :: st) := by
  obtain ⟨p, l, e, s, m, args, below, meth, c, D, A, cells, slots, Q, rfl, hx, hb, hml, hown, hts, hlk, hK, hZ, hA, hcc, hss⟩ := h
  obtain ⟨hd, rfl⟩ := hd
  intro H locs ls hP hD hS hl
  exact lv_ldiv hx hb hd hne (k H locs ls hP hD hS hl)
theorem z_lcmp {x y : Int64} (h : zOK g J cc nL own R) (hd : zd cc pc (.lcmp) 1 pc')  (k : J w pc' lv (.int (lg_cmp x y) :: st)) : J w pc lv (.long y :: .long x :: st) := by
  obtain ⟨p, l, e, s, m, args, below, meth, c, D, A, cells, slots, Q, rfl, hx, hb, hml, hown, hts, hlk, hK, hZ, hA, hcc, hss⟩ := h
  obtain ⟨hd, rfl⟩ := hd
  intro H locs ls hP hD hS hl
  exact W.lcmp hx hb hd (k H locs ls hP hD hS hl)
theorem z_iushr {x y : Int32} (h : zOK g J cc nL own R) (hd : zd cc pc (.iushr) 1 pc')  (k : J w pc' lv (.int ((x.toUInt32 >>> (y.toUInt32 &&& Int32.toUInt32 31)).toInt32) :: st)) : J w pc lv (.int y :: .int x :: st) := by
  obtain ⟨p, l, e, s, m, args, below, meth, c, D, A, cells, slots, Q, rfl, hx, hb, hml, hown, hts, hlk, hK, hZ, hA, hcc, hss⟩ := h
  obtain ⟨hd, rfl⟩ := hd
  intro H locs ls hP hD hS hl
  exact lv_iushr hx hb hd rfl (k H locs ls hP hD hS hl)
theorem z_lshl {x : Int64} {y : Int32} (h : zOK g J cc nL own R) (hd : zd cc pc (.lshl) 1 pc')  (k : J w pc' lv (.long (x <<< (y.toInt64 &&& 63)) :: st)) : J w pc lv (.int y :: .long x :: st) := by
  obtain ⟨p, l, e, s, m, args, below, meth, c, D, A, cells, slots, Q, rfl, hx, hb, hml, hown, hts, hlk, hK, hZ, hA, hcc, hss⟩ := h
  obtain ⟨hd, rfl⟩ := hd
  intro H locs ls hP hD hS hl
  exact lv_lshl hx hb hd rfl (k H locs ls hP hD hS hl)
theorem z_lshr {x : Int64} {y : Int32} (h : zOK g J cc nL own R) (hd : zd cc pc (.lshr) 1 pc')  (k : J w pc' lv (.long (x >>> (y.toInt64 &&& 63)) :: st)) : J w pc lv (.int y :: .long x :: st) := by
  obtain ⟨p, l, e, s, m, args, below, meth, c, D, A, cells, slots, Q, rfl, hx, hb, hml, hown, hts, hlk, hK, hZ, hA, hcc, hss⟩ := h
  obtain ⟨hd, rfl⟩ := hd
  intro H locs ls hP hD hS hl
  exact lv_lshr hx hb hd rfl (k H locs ls hP hD hS hl)
theorem z_i2l {x : Int32} (h : zOK g J cc nL own R) (hd : zd cc pc (.i2l) 1 pc')  (k : J w pc' lv (.long x.toInt64 :: st)) : J w pc lv (.int x :: st) := by
  obtain ⟨p, l, e, s, m, args, below, meth, c, D, A, cells, slots, Q, rfl, hx, hb, hml, hown, hts, hlk, hK, hZ, hA, hcc, hss⟩ := h
  obtain ⟨hd, rfl⟩ := hd
  intro H locs ls hP hD hS hl
  exact lv_i2l hx hb hd rfl (k H locs ls hP hD hS hl)
theorem z_l2i {x : Int64} (h : zOK g J cc nL own R) (hd : zd cc pc (.l2i) 1 pc')  (k : J w pc' lv (.int x.toInt32 :: st)) : J w pc lv (.long x :: st) := by
  obtain ⟨p, l, e, s, m, args, below, meth, c, D, A, cells, slots, Q, rfl, hx, hb, hml, hown, hts, hlk, hK, hZ, hA, hcc, hss⟩ := h
  obtain ⟨hd, rfl⟩ := hd
  intro H locs ls hP hD hS hl
  exact lv_l2i hx hb hd rfl (k H locs ls hP hD hS hl)
theorem z_i2b {x : Int32} (h : zOK g J cc nL own R) (hd : zd cc pc (.i2b) 1 pc')  (k : J w pc' lv (.int x.toInt8.toInt32 :: st)) : J w pc lv (.int x :: st) := by
  obtain ⟨p, l, e, s, m, args, below, meth, c, D, A, cells, slots, Q, rfl, hx, hb, hml, hown, hts, hlk, hK, hZ, hA, hcc, hss⟩ := h
  obtain ⟨hd, rfl⟩ := hd
  intro H locs ls hP hD hS hl
  exact lv_i2b hx hb hd rfl (k H locs ls hP hD hS hl)
theorem z_i2s {x : Int32} (h : zOK g J cc nL own R) (hd : zd cc pc (.i2s) 1 pc')  (k : J w pc' lv (.int x.toInt16.toInt32 :: st)) : J w pc lv (.int x :: st) := by
  obtain ⟨p, l, e, s, m, args, below, meth, c, D, A, cells, slots, Q, rfl, hx, hb, hml, hown, hts, hlk, hK, hZ, hA, hcc, hss⟩ := h
  obtain ⟨hd, rfl⟩ := hd
  intro H locs ls hP hD hS hl
  exact lv_i2s hx hb hd rfl (k H locs ls hP hD hS hl)
theorem z_i2c {x v : Int32} (h : zOK g J cc nL own R) (hd : zd cc pc (.i2c) 1 pc') (hv : (x.toUInt32 % 65536).toInt32 = v) (k : J w pc' lv (.int v :: st)) : J w pc lv (.int x :: st) := by
  obtain ⟨p, l, e, s, m, args, below, meth, c, D, A, cells, slots, Q, rfl, hx, hb, hml, hown, hts, hlk, hK, hZ, hA, hcc, hss⟩ := h
  obtain ⟨hd, rfl⟩ := hd
  intro H locs ls hP hD hS hl
  exact lv_i2c hx hb hd hv (k H locs ls hP hD hS hl)
theorem z_iconst {i : Int} {v : Int32} (h : zOK g J cc nL own R) (hd : zd cc pc (.iconst i) 1 pc') (hv : Int32.ofInt i = v) (k : J w pc' lv (.int v :: st)) : J w pc lv (st) := by
  obtain ⟨p, l, e, s, m, args, below, meth, c, D, A, cells, slots, Q, rfl, hx, hb, hml, hown, hts, hlk, hK, hZ, hA, hcc, hss⟩ := h
  obtain ⟨hd, rfl⟩ := hd
  intro H locs ls hP hD hS hl
  exact lv_iconst hx hb hd hv (k H locs ls hP hD hS hl)
theorem z_bipush {i : Int} {v : Int32} (h : zOK g J cc nL own R) (hd : zd cc pc (.bipush i) 2 pc') (hv : (Int8.ofInt i).toInt32 = v) (k : J w pc' lv (.int v :: st)) : J w pc lv (st) := by
  obtain ⟨p, l, e, s, m, args, below, meth, c, D, A, cells, slots, Q, rfl, hx, hb, hml, hown, hts, hlk, hK, hZ, hA, hcc, hss⟩ := h
  obtain ⟨hd, rfl⟩ := hd
  intro H locs ls hP hD hS hl
  exact lv_bipush hx hb hd hv (k H locs ls hP hD hS hl)
theorem z_sipush {i : Int} {v : Int32} (h : zOK g J cc nL own R) (hd : zd cc pc (.sipush i) 3 pc') (hv : (Int16.ofInt i).toInt32 = v) (k : J w pc' lv (.int v :: st)) : J w pc lv (st) := by
  obtain ⟨p, l, e, s, m, args, below, meth, c, D, A, cells, slots, Q, rfl, hx, hb, hml, hown, hts, hlk, hK, hZ, hA, hcc, hss⟩ := h
  obtain ⟨hd, rfl⟩ := hd
  intro H locs ls hP hD hS hl
  exact lv_sipush hx hb hd hv (k H locs ls hP hD hS hl)
theorem z_lconst {i : Fin 2} {v : Int64} (h : zOK g J cc nL own R) (hd : zd cc pc (.lconst i) 1 pc') (hv : Int64.ofNat (i : Nat) = v) (k : J w pc' lv (.long v :: st)) : J w pc lv (st) := by
  obtain ⟨p, l, e, s, m, args, below, meth, c, D, A, cells, slots, Q, rfl, hx, hb, hml, hown, hts, hlk, hK, hZ, hA, hcc, hss⟩ := h
  obtain ⟨hd, rfl⟩ := hd
  intro H locs ls hP hD hS hl
  exact lv_lconst hx hb hd hv (k H locs ls hP hD hS hl)
theorem z_ldc {idx : Nat} {v : Int32} (h : zOK g J cc nL own R) (hd : zd cc pc (.ldc idx) 2 pc') (hv : Cond.constant own idx v ∈ zT) (k : J w pc' lv (.int v :: st)) : J w pc lv (st) := by
  obtain ⟨p, l, e, s, m, args, below, meth, c, D, A, cells, slots, Q, rfl, hx, hb, hml, hown, hts, hlk, hK, hZ, hA, hcc, hss⟩ := h
  obtain ⟨hd, rfl⟩ := hd
  intro H locs ls hP hD hS hl
  exact lv_ldc hx hb hown (hts _ hv) hd (k H locs ls hP hD hS hl)
theorem z_ldcw {idx : Nat} {v : Int32} (h : zOK g J cc nL own R) (hd : zd cc pc (.ldc_w idx) 3 pc') (hv : Cond.constant own idx v ∈ zT) (k : J w pc' lv (.int v :: st)) : J w pc lv (st) := by
  obtain ⟨p, l, e, s, m, args, below, meth, c, D, A, cells, slots, Q, rfl, hx, hb, hml, hown, hts, hlk, hK, hZ, hA, hcc, hss⟩ := h
  obtain ⟨hd, rfl⟩ := hd
  intro H locs ls hP hD hS hl
  exact lv_ldcw hx hb hown (hts _ hv) hd (k H locs ls hP hD hS hl)
theorem z_ldc2 {idx : Nat} {v : Int64} (h : zOK g J cc nL own R) (hd : zd cc pc (.ldc2_w idx) 3 pc') (hv : Cond.constantLong own idx v ∈ zT) (k : J w pc' lv (.long v :: st)) : J w pc lv (st) := by
  obtain ⟨p, l, e, s, m, args, below, meth, c, D, A, cells, slots, Q, rfl, hx, hb, hml, hown, hts, hlk, hK, hZ, hA, hcc, hss⟩ := h
  obtain ⟨hd, rfl⟩ := hd
  intro H locs ls hP hD hS hl
  exact lv_ldc2 hx hb hown (hts _ hv) hd (k H locs ls hP hD hS hl)
theorem z_ldcS {idx i : Nat} {tx : String} (h : zOK g J cc nL own R) (hd : zd cc pc (.ldc idx) 2 pc') (hv : zRl[i]? = some (own, idx, tx)) (k : J w pc' lv (.ref (g 1 i) :: st)) : J w pc lv (st) := by
  obtain ⟨p, l, e, s, m, args, below, meth, c, D, A, cells, slots, Q, rfl, hx, hb, hml, hown, hts, hlk, hK, hZ, hA, hcc, hss⟩ := h
  obtain ⟨hd, rfl⟩ := hd
  intro H locs ls hP hD hS hl
  exact va_ldcS hx hb hown (hZ.2.1 i _ hv) hd (k H locs ls hP hD hS hl)
theorem z_iload_n {x : Int32} {i : Fin 4} (h : zOK g J cc nL own R) (hd : zd cc pc (.iload_n i) 1 pc') (q : Nat) (hk : lv[q]? = some ((i : Nat), .int x)) (k : J w pc' lv (.int x :: st)) : J w pc lv (st) := by
  obtain ⟨p, l, e, s, m, args, below, meth, c, D, A, cells, slots, Q, rfl, hx, hb, hml, hown, hts, hlk, hK, hZ, hA, hcc, hss⟩ := h
  obtain ⟨hd, rfl⟩ := hd
  intro H locs ls hP hD hS hl
  exact lv_iload_n hx hb hd rfl (lv_at hl q hk) (k H locs ls hP hD hS hl)
theorem z_iload {x : Int32} {i : Nat} (h : zOK g J cc nL own R) (hd : zd cc pc (.iload i) 2 pc') (q : Nat) (hk : lv[q]? = some (i, .int x)) (k : J w pc' lv (.int x :: st)) : J w pc lv (st) := by
  obtain ⟨p, l, e, s, m, args, below, meth, c, D, A, cells, slots, Q, rfl, hx, hb, hml, hown, hts, hlk, hK, hZ, hA, hcc, hss⟩ := h
  obtain ⟨hd, rfl⟩ := hd
  intro H locs ls hP hD hS hl
  exact lv_iload hx hb hd (lv_at hl q hk) (k H locs ls hP hD hS hl)
theorem z_istore_n {x : Int32} {i : Fin 4} (h : zOK g J cc nL own R) (hd : zd cc pc (.istore_n i) 1 pc') (hn : (i : Nat) < nL) (hv : zst lv (i : Nat) (.int x) = lv') (k : J w pc' lv' (st)) : J w pc lv (.int x :: st) := by
  obtain ⟨p, l, e, s, m, args, below, meth, c, D, A, cells, slots, Q, rfl, hx, hb, hml, hown, hts, hlk, hK, hZ, hA, hcc, hss⟩ := h
  obtain ⟨hd, rfl⟩ := hd
  intro H locs ls hP hD hS hl
  exact lv_istore_n hx hb hd rfl hl hn rfl (fun ls hl => k H locs ls hP hD hS (hl.less (fun q hq => zins_mem (by rw [← hv] at hq; exact hq))))
theorem z_istore {x : Int32} {i : Nat} (h : zOK g J cc nL own R) (hd : zd cc pc (.istore i) 2 pc') (hn : (i : Nat) < nL) (hv : zst lv i (.int x) = lv') (k : J w pc' lv' (st)) : J w pc lv (.int x :: st) := by
  obtain ⟨p, l, e, s, m, args, below, meth, c, D, A, cells, slots, Q, rfl, hx, hb, hml, hown, hts, hlk, hK, hZ, hA, hcc, hss⟩ := h
  obtain ⟨hd, rfl⟩ := hd
  intro H locs ls hP hD hS hl
  exact lv_istore hx hb hd hl hn rfl (fun ls hl => k H locs ls hP hD hS (hl.less (fun q hq => zins_mem (by rw [← hv] at hq; exact hq))))
theorem z_lload_n {x : Int64} {i : Fin 4} (h : zOK g J cc nL own R) (hd : zd cc pc (.lload_n i) 1 pc') (q : Nat) (hk : lv[q]? = some ((i : Nat), .long x)) (k : J w pc' lv (.long x :: st)) : J w pc lv (st) := by
  obtain ⟨p, l, e, s, m, args, below, meth, c, D, A, cells, slots, Q, rfl, hx, hb, hml, hown, hts, hlk, hK, hZ, hA, hcc, hss⟩ := h
  obtain ⟨hd, rfl⟩ := hd
  intro H locs ls hP hD hS hl
  exact lv_lload_n hx hb hd rfl (lv_at hl q hk) (k H locs ls hP hD hS hl)
theorem z_lload {x : Int64} {i : Nat} (h : zOK g J cc nL own R) (hd : zd cc pc (.lload i) 2 pc') (q : Nat) (hk : lv[q]? = some (i, .long x)) (k : J w pc' lv (.long x :: st)) : J w pc lv (st) := by
  obtain ⟨p, l, e, s, m, args, below, meth, c, D, A, cells, slots, Q, rfl, hx, hb, hml, hown, hts, hlk, hK, hZ, hA, hcc, hss⟩ := h
  obtain ⟨hd, rfl⟩ := hd
  intro H locs ls hP hD hS hl
  exact lv_lload hx hb hd (lv_at hl q hk) (k H locs ls hP hD hS hl)
theorem z_lstore_n {x : Int64} {i : Fin 4} (h : zOK g J cc nL own R) (hd : zd cc pc (.lstore_n i) 1 pc') (hn : (i : Nat) + 1 < nL) (hv : zst2 lv (i : Nat) (.long x) = lv') (k : J w pc' lv' (st)) : J w pc lv (.long x :: st) := by
  obtain ⟨p, l, e, s, m, args, below, meth, c, D, A, cells, slots, Q, rfl, hx, hb, hml, hown, hts, hlk, hK, hZ, hA, hcc, hss⟩ := h
  obtain ⟨hd, rfl⟩ := hd
  intro H locs ls hP hD hS hl
  exact lv_lstore_n hx hb hd rfl hl hn rfl (fun ls hl => k H locs ls hP hD hS (hl.less (fun q hq => zins_mem (by rw [← hv] at hq; exact hq))))
theorem z_lstore {x : Int64} {i : Nat} (h : zOK g J cc nL own R) (hd : zd cc pc (.lstore i) 2 pc') (hn : (i : Nat) + 1 < nL) (hv : zst2 lv i (.long x) = lv') (k : J w pc' lv' (st)) : J w pc lv (.long x :: st) := by
  obtain ⟨p, l, e, s, m, args, below, meth, c, D, A, cells, slots, Q, rfl, hx, hb, hml, hown, hts, hlk, hK, hZ, hA, hcc, hss⟩ := h
  obtain ⟨hd, rfl⟩ := hd
  intro H locs ls hP hD hS hl
  exact lv_lstore hx hb hd hl hn rfl (fun ls hl => k H locs ls hP hD hS (hl.less (fun q hq => zins_mem (by rw [← hv] at hq; exact hq))))
theorem z_aload_n {x : Nat} {i : Fin 4} (h : zOK g J cc nL own R) (hd : zd cc pc (.aload_n i) 1 pc') (q : Nat) (hk : lv[q]? = some ((i : Nat), .ref x)) (k : J w pc' lv (.ref x :: st)) : J w pc lv (st) := by
  obtain ⟨p, l, e, s, m, args, below, meth, c, D, A, cells, slots, Q, rfl, hx, hb, hml, hown, hts, hlk, hK, hZ, hA, hcc, hss⟩ := h
  obtain ⟨hd, rfl⟩ := hd
  intro H locs ls hP hD hS hl
  exact lv_aload_n hx hb hd rfl (lv_at hl q hk) (k H locs ls hP hD hS hl)
theorem z_aload {x : Nat} {i : Nat} (h : zOK g J cc nL own R) (hd : zd cc pc (.aload i) 2 pc') (q : Nat) (hk : lv[q]? = some (i, .ref x)) (k : J w pc' lv (.ref x :: st)) : J w pc lv (st) := by
  obtain ⟨p, l, e, s, m, args, below, meth, c, D, A, cells, slots, Q, rfl, hx, hb, hml, hown, hts, hlk, hK, hZ, hA, hcc, hss⟩ := h
  obtain ⟨hd, rfl⟩ := hd
  intro H locs ls hP hD hS hl
  exact lv_aload hx hb hd (lv_at hl q hk) (k H locs ls hP hD hS hl)
theorem z_astore_n {x : Nat} {i : Fin 4} (h : zOK g J cc nL own R) (hd : zd cc pc (.astore_n i) 1 pc') (hn : (i : Nat) < nL) (hv : zst lv (i : Nat) (.ref x) = lv') (k : J w pc' lv' (st)) : J w pc lv (.ref x :: st) := by
  obtain ⟨p, l, e, s, m, args, below, meth, c, D, A, cells, slots, Q, rfl, hx, hb, hml, hown, hts, hlk, hK, hZ, hA, hcc, hss⟩ := h
  obtain ⟨hd, rfl⟩ := hd
  intro H locs ls hP hD hS hl
  exact lv_astore_n hx hb hd rfl hl hn rfl (fun ls hl => k H locs ls hP hD hS (hl.less (fun q hq => zins_mem (by rw [← hv] at hq; exact hq))))
theorem z_astore {x : Nat} {i : Nat} (h : zOK g J cc nL own R) (hd : zd cc pc (.astore i) 2 pc') (hn : (i : Nat) < nL) (hv : zst lv i (.ref x) = lv') (k : J w pc' lv' (st)) : J w pc lv (.ref x :: st) := by
  obtain ⟨p, l, e, s, m, args, below, meth, c, D, A, cells, slots, Q, rfl, hx, hb, hml, hown, hts, hlk, hK, hZ, hA, hcc, hss⟩ := h
  obtain ⟨hd, rfl⟩ := hd
  intro H locs ls hP hD hS hl
  exact lv_astore hx hb hd hl hn rfl (fun ls hl => k H locs ls hP hD hS (hl.less (fun q hq => zins_mem (by rw [← hv] at hq; exact hq))))
theorem z_iinc {x v : Int32} {i : Nat} {n : Int} (h : zOK g J cc nL own R) (hd : zd cc pc (.iinc i n) 3 pc') (q : Nat) (hk : lv[q]? = some (i, .int x)) (he : x + Int32.ofInt n = v) (hn : i < nL) (hv : zst lv i (.int v) = lv') (k : J w pc' lv' (st)) : J w pc lv (st) := by
  obtain ⟨p, l, e, s, m, args, below, meth, c, D, A, cells, slots, Q, rfl, hx, hb, hml, hown, hts, hlk, hK, hZ, hA, hcc, hss⟩ := h
  obtain ⟨hd, rfl⟩ := hd
  intro H locs ls hP hD hS hl
  exact lv_iinc hx hb hd hl (k := q) hk he hn rfl (fun ls hl => k H locs ls hP hD hS (hl.less (fun q hq => zins_mem (by rw [← hv] at hq; exact hq))))
theorem z_dup {v : Value} (h : zOK g J cc nL own R) (hd : zd cc pc (.dup) 1 pc') (hv : v.category = 1) (k : J w pc' lv (v :: v :: st)) : J w pc lv (v :: st) := by
  obtain ⟨p, l, e, s, m, args, below, meth, c, D, A, cells, slots, Q, rfl, hx, hb, hml, hown, hts, hlk, hK, hZ, hA, hcc, hss⟩ := h
  obtain ⟨hd, rfl⟩ := hd
  intro H locs ls hP hD hS hl
  exact lv_dup hx hb hd hv (k H locs ls hP hD hS hl)
theorem z_pop {v : Value} (h : zOK g J cc nL own R) (hd : zd cc pc (.pop) 1 pc') (hv : v.category = 1) (k : J w pc' lv (st)) : J w pc lv (v :: st) := by
  obtain ⟨p, l, e, s, m, args, below, meth, c, D, A, cells, slots, Q, rfl, hx, hb, hml, hown, hts, hlk, hK, hZ, hA, hcc, hss⟩ := h
  obtain ⟨hd, rfl⟩ := hd
  intro H locs ls hP hD hS hl
  exact lv_pop hx hb hd hv (k H locs ls hP hD hS hl)
theorem z_dup2 {va vb : Value} (h : zOK g J cc nL own R) (hd : zd cc pc (.dup2) 1 pc') (hv : va.category = 1) (hv2 : vb.category = 1) (k : J w pc' lv (va :: vb :: va :: vb :: st)) : J w pc lv (va :: vb :: st) := by
  obtain ⟨p, l, e, s, m, args, below, meth, c, D, A, cells, slots, Q, rfl, hx, hb, hml, hown, hts, hlk, hK, hZ, hA, hcc, hss⟩ := h
  obtain ⟨hd, rfl⟩ := hd
  intro H locs ls hP hD hS hl
  exact lv_dup2_11 hx hb hd hv hv2 (k H locs ls hP hD hS hl)
theorem z_dup_x1 {va vb : Value} (h : zOK g J cc nL own R) (hd : zd cc pc (.dup_x1) 1 pc') (hv : va.category = 1) (hv2 : vb.category = 1) (k : J w pc' lv (va :: vb :: va :: st)) : J w pc lv (va :: vb :: st) := by
  obtain ⟨p, l, e, s, m, args, below, meth, c, D, A, cells, slots, Q, rfl, hx, hb, hml, hown, hts, hlk, hK, hZ, hA, hcc, hss⟩ := h
  obtain ⟨hd, rfl⟩ := hd
  intro H locs ls hP hD hS hl
  exact lv_dup_x1 hx hb hd hv hv2 (k H locs ls hP hD hS hl)
theorem z_if_eq {x : Int32} {off : Int} {tgt : Nat} (h : zOK g J cc nL own R) (hd : zj cc pc (.ifCond .eq off) 3 pc' off tgt) (kt : x = 0 → J w tgt lv st) (kf : ¬ x = 0 → J w pc' lv st) : J w pc lv (.int x :: st) := by
  obtain ⟨p, l, e, s, m, args, below, meth, c, D, A, cells, slots, Q, rfl, hx, hb, hml, hown, hts, hlk, hK, hZ, hA, hcc, hss⟩ := h
  obtain ⟨hd, rfl, ht⟩ := hd
  intro H locs ls hP hD hS hl
  exact lv_if_eq hx hb hd ht (fun q => kt q H locs ls hP hD hS hl) (fun q => kf q H locs ls hP hD hS hl)
theorem z_icmp_eq {x y : Int32} {off : Int} {tgt : Nat} (h : zOK g J cc nL own R) (hd : zj cc pc (.if_icmp .eq off) 3 pc' off tgt) (kt : x = y → J w tgt lv st) (kf : ¬ x = y → J w pc' lv st) : J w pc lv (.int y :: .int x :: st) := by
  obtain ⟨p, l, e, s, m, args, below, meth, c, D, A, cells, slots, Q, rfl, hx, hb, hml, hown, hts, hlk, hK, hZ, hA, hcc, hss⟩ := h
  obtain ⟨hd, rfl, ht⟩ := hd
  intro H locs ls hP hD hS hl
  exact lv_icmp_eq hx hb hd ht (fun q => kt q H locs ls hP hD hS hl) (fun q => kf q H locs ls hP hD hS hl)
theorem z_if_ne {x : Int32} {off : Int} {tgt : Nat} (h : zOK g J cc nL own R) (hd : zj cc pc (.ifCond .ne off) 3 pc' off tgt) (kt : ¬ x = 0 → J w tgt lv st) (kf : x = 0 → J w pc' lv st) : J w pc lv (.int x :: st) := by
  obtain ⟨p, l, e, s, m, args, below, meth, c, D, A, cells, slots, Q, rfl, hx, hb, hml, hown, hts, hlk, hK, hZ, hA, hcc, hss⟩ := h
  obtain ⟨hd, rfl, ht⟩ := hd
  intro H locs ls hP hD hS hl
  exact lv_if_ne hx hb hd ht (fun q => kt q H locs ls hP hD hS hl) (fun q => kf q H locs ls hP hD hS hl)
theorem z_icmp_ne {x y : Int32} {off : Int} {tgt : Nat} (h : zOK g J cc nL own R) (hd : zj cc pc (.if_icmp .ne off) 3 pc' off tgt) (kt : ¬ x = y → J w tgt lv st) (kf : x = y → J w pc' lv st) : J w pc lv (.int y :: .int x :: st) := by
  obtain ⟨p, l, e, s, m, args, below, meth, c, D, A, cells, slots, Q, rfl, hx, hb, hml, hown, hts, hlk, hK, hZ, hA, hcc, hss⟩ := h
  obtain ⟨hd, rfl, ht⟩ := hd
  intro H locs ls hP hD hS hl
  exact lv_icmp_ne hx hb hd ht (fun q => kt q H locs ls hP hD hS hl) (fun q => kf q H locs ls hP hD hS hl)
theorem z_if_lt {x : Int32} {off : Int} {tgt : Nat} (h : zOK g J cc nL own R) (hd : zj cc pc (.ifCond .lt off) 3 pc' off tgt) (kt : x < 0 → J w tgt lv st) (kf : ¬ x < 0 → J w pc' lv st) : J w pc lv (.int x :: st) := by
  obtain ⟨p, l, e, s, m, args, below, meth, c, D, A, cells, slots, Q, rfl, hx, hb, hml, hown, hts, hlk, hK, hZ, hA, hcc, hss⟩ := h
  obtain ⟨hd, rfl, ht⟩ := hd
  intro H locs ls hP hD hS hl
  exact lv_if_lt hx hb hd ht (fun q => kt q H locs ls hP hD hS hl) (fun q => kf q H locs ls hP hD hS hl)
theorem z_icmp_lt {x y : Int32} {off : Int} {tgt : Nat} (h : zOK g J cc nL own R) (hd : zj cc pc (.if_icmp .lt off) 3 pc' off tgt) (kt : x < y → J w tgt lv st) (kf : ¬ x < y → J w pc' lv st) : J w pc lv (.int y :: .int x :: st) := by
  obtain ⟨p, l, e, s, m, args, below, meth, c, D, A, cells, slots, Q, rfl, hx, hb, hml, hown, hts, hlk, hK, hZ, hA, hcc, hss⟩ := h
  obtain ⟨hd, rfl, ht⟩ := hd
  intro H locs ls hP hD hS hl
  exact lv_icmp_lt hx hb hd ht (fun q => kt q H locs ls hP hD hS hl) (fun q => kf q H locs ls hP hD hS hl)
theorem z_if_ge {x : Int32} {off : Int} {tgt : Nat} (h : zOK g J cc nL own R) (hd : zj cc pc (.ifCond .ge off) 3 pc' off tgt) (kt : 0 ≤ x → J w tgt lv st) (kf : ¬ 0 ≤ x → J w pc' lv st) : J w pc lv (.int x :: st) := by
  obtain ⟨p, l, e, s, m, args, below, meth, c, D, A, cells, slots, Q, rfl, hx, hb, hml, hown, hts, hlk, hK, hZ, hA, hcc, hss⟩ := h
  obtain ⟨hd, rfl, ht⟩ := hd
  intro H locs ls hP hD hS hl
  exact lv_if_ge hx hb hd ht (fun q => kt q H locs ls hP hD hS hl) (fun q => kf q H locs ls hP hD hS hl)
theorem z_icmp_ge {x y : Int32} {off : Int} {tgt : Nat} (h : zOK g J cc nL own R) (hd : zj cc pc (.if_icmp .ge off) 3 pc' off tgt) (kt : y ≤ x → J w tgt lv st) (kf : ¬ y ≤ x → J w pc' lv st) : J w pc lv (.int y :: .int x :: st) := by
  obtain ⟨p, l, e, s, m, args, below, meth, c, D, A, cells, slots, Q, rfl, hx, hb, hml, hown, hts, hlk, hK, hZ, hA, hcc, hss⟩ := h
  obtain ⟨hd, rfl, ht⟩ := hd
  intro H locs ls hP hD hS hl
  exact lv_icmp_ge hx hb hd ht (fun q => kt q H locs ls hP hD hS hl) (fun q => kf q H locs ls hP hD hS hl)
theorem z_if_gt {x : Int32} {off : Int} {tgt : Nat} (h : zOK g J cc nL own R) (hd : zj cc pc (.ifCond .gt off) 3 pc' off tgt) (kt : 0 < x → J w tgt lv st) (kf : ¬ 0 < x → J w pc' lv st) : J w pc lv (.int x :: st) := by
  obtain ⟨p, l, e, s, m, args, below, meth, c, D, A, cells, slots, Q, rfl, hx, hb, hml, hown, hts, hlk, hK, hZ, hA, hcc, hss⟩ := h
  obtain ⟨hd, rfl, ht⟩ := hd
  intro H locs ls hP hD hS hl
  exact lv_if_gt hx hb hd ht (fun q => kt q H locs ls hP hD hS hl) (fun q => kf q H locs ls hP hD hS hl)
theorem z_icmp_gt {x y : Int32} {off : Int} {tgt : Nat} (h : zOK g J cc nL own R) (hd : zj cc pc (.if_icmp .gt off) 3 pc' off tgt) (kt : y < x → J w tgt lv st) (kf : ¬ y < x → J w pc' lv st) : J w pc lv (.int y :: .int x :: st) := by
  obtain ⟨p, l, e, s, m, args, below, meth, c, D, A, cells, slots, Q, rfl, hx, hb, hml, hown, hts, hlk, hK, hZ, hA, hcc, hss⟩ := h
  obtain ⟨hd, rfl, ht⟩ := hd
  intro H locs ls hP hD hS hl
  exact lv_icmp_gt hx hb hd ht (fun q => kt q H locs ls hP hD hS hl) (fun q => kf q H locs ls hP hD hS hl)
theorem z_if_le {x : Int32} {off : Int} {tgt : Nat} (h : zOK g J cc nL own R) (hd : zj cc pc (.ifCond .le off) 3 pc' off tgt) (kt : x ≤ 0 → J w tgt lv st) (kf : ¬ x ≤ 0 → J w pc' lv st) : J w pc lv (.int x :: st) := by
  obtain ⟨p, l, e, s, m, args, below, meth, c, D, A, cells, slots, Q, rfl, hx, hb, hml, hown, hts, hlk, hK, hZ, hA, hcc, hss⟩ := h
  obtain ⟨hd, rfl, ht⟩ := hd
  intro H locs ls hP hD hS hl
  exact lv_if_le hx hb hd ht (fun q => kt q H locs ls hP hD hS hl) (fun q => kf q H locs ls hP hD hS hl)
theorem z_icmp_le {x y : Int32} {off : Int} {tgt : Nat} (h : zOK g J cc nL own R) (hd : zj cc pc (.if_icmp .le off) 3 pc' off tgt) (kt : x ≤ y → J w tgt lv st) (kf : ¬ x ≤ y → J w pc' lv st) : J w pc lv (.int y :: .int x :: st) := by
  obtain ⟨p, l, e, s, m, args, below, meth, c, D, A, cells, slots, Q, rfl, hx, hb, hml, hown, hts, hlk, hK, hZ, hA, hcc, hss⟩ := h
  obtain ⟨hd, rfl, ht⟩ := hd
  intro H locs ls hP hD hS hl
  exact lv_icmp_le hx hb hd ht (fun q => kt q H locs ls hP hD hS hl) (fun q => kf q H locs ls hP hD hS hl)
theorem zb_eq {x : Bool} {off : Int} {tgt : Nat} (h : zOK g J cc nL own R) (hd : zj cc pc (.ifCond .eq off) 3 pc' off tgt) (kt : x = false → J w tgt lv st) (kf : x = true → J w pc' lv st) : J w pc lv (.int (zB x) :: st) := by
  obtain ⟨p, l, e, s, m, args, below, meth, c, D, A, cells, slots, Q, rfl, hx, hb, hml, hown, hts, hlk, hK, hZ, hA, hcc, hss⟩ := h
  obtain ⟨hd, rfl, ht⟩ := hd
  intro H locs ls hP hD hS hl
  exact lv_if_eq hx hb hd ht (fun q => kt (zB_0 q) H locs ls hP hD hS hl) (fun q => kf (zB_1 q) H locs ls hP hD hS hl)
theorem zb_ne {x : Bool} {off : Int} {tgt : Nat} (h : zOK g J cc nL own R) (hd : zj cc pc (.ifCond .ne off) 3 pc' off tgt) (kt : x = true → J w tgt lv st) (kf : x = false → J w pc' lv st) : J w pc lv (.int (zB x) :: st) := by
  obtain ⟨p, l, e, s, m, args, below, meth, c, D, A, cells, slots, Q, rfl, hx, hb, hml, hown, hts, hlk, hK, hZ, hA, hcc, hss⟩ := h
  obtain ⟨hd, rfl, ht⟩ := hd
  intro H locs ls hP hD hS hl
  exact lv_if_ne hx hb hd ht (fun q => kt (zB_1 q) H locs ls hP hD hS hl) (fun q => kf (zB_0 q) H locs ls hP hD hS hl)
theorem z_goto {off : Int} {tgt : Nat} (h : zOK g J cc nL own R) (hd : zj cc pc (.goto off) 3 pc' off tgt) (k : J w tgt lv st) : J w pc lv st := by
  obtain ⟨p, l, e, s, m, args, below, meth, c, D, A, cells, slots, Q, rfl, hx, hb, hml, hown, hts, hlk, hK, hZ, hA, hcc, hss⟩ := h
  obtain ⟨hd, rfl, ht⟩ := hd
  intro H locs ls hP hD hS hl
  exact lv_goto hx hb hd ht (k H locs ls hP hD hS hl)
theorem z_tin {dflt lo hi : Int} {offs : Array Int} {n : Nat} {x : Int32} {off : Int} {tgt : Nat} (h : zOK g J cc nL own R) (hd : zd cc pc (.tableswitch dflt lo hi offs) n pc') (h1 : ¬ x.toInt < lo) (h2 : ¬ hi < x.toInt) (ho : offs[(x.toInt - lo).toNat]? = some off) (ht : (pc : Int) + off = (tgt : Int)) (k : J w tgt lv st) : J w pc lv (.int x :: st) := by
  obtain ⟨p, l, e, s, m, args, below, meth, c, D, A, cells, slots, Q, rfl, hx, hb, hml, hown, hts, hlk, hK, hZ, hA, hcc, hss⟩ := h
  obtain ⟨hd, rfl⟩ := hd
  intro H locs ls hP hD hS hl
  exact lv_tableIn hx hb hd h1 h2 ho ht (k H locs ls hP hD hS hl)
theorem z_tout {dflt lo hi : Int} {offs : Array Int} {n : Nat} {x : Int32} {tgt : Nat} (h : zOK g J cc nL own R) (hd : zd cc pc (.tableswitch dflt lo hi offs) n pc') (h1 : x.toInt < lo ∨ hi < x.toInt) (ht : (pc : Int) + dflt = (tgt : Int)) (k : J w tgt lv st) : J w pc lv (.int x :: st) := by
  obtain ⟨p, l, e, s, m, args, below, meth, c, D, A, cells, slots, Q, rfl, hx, hb, hml, hown, hts, hlk, hK, hZ, hA, hcc, hss⟩ := h
  obtain ⟨hd, rfl⟩ := hd
  intro H locs ls hP hD hS hl
  exact lv_tableOut hx hb hd h1 ht (k H locs ls hP hD hS hl)
theorem z_get {ci N idx k0 a : Nat} {C : String} {T : u_T} {ty : Nat → FieldType} {fs : List Value} {v : Value} (h : zOK g J cc nL own R) (hd : zd cc pc (.getfield idx) 3 pc') (hc : zCls ci C T N ty) (hf : zFl own idx T k0) (q : Nat) (he : w[q]? = some (a, .inr (ci, fs))) (hv : fs[k0]? = some v) (hk0 : k0 < N) (k : J w pc' lv (v :: st)) : J w pc lv (.ref a :: st) := by
  obtain ⟨p, l, e, s, m, args, below, meth, c, D, A, cells, slots, Q, rfl, hx, hb, hml, hown, hts, hlk, hK, hZ, hA, hcc, hss⟩ := h
  obtain ⟨hd, rfl⟩ := hd
  intro H locs ls hP hD hS hl
  exact va_get (ci := ci) (C := C) (T := T) (N := N) hx hb hts hc.2.1 hown hK hP q he hc.1 k0 hk0 (hts _ hf) (fun _ h9 => h9) hv hd (k H locs ls hP hD hS hl)
theorem z_put {ci N idx k0 a : Nat} {C : String} {T : u_T} {ty : Nat → FieldType} {fs : List Value} {v : Value} (h : zOK g J cc nL own R) (hd : zd cc pc (.putfield idx) 3 pc') (hc : zCls ci C T N ty) (hf : zFl own idx T k0) (q : Nat) (he : w[q]? = some (a, .inr (ci, fs))) (hfin : (T k0).2.2.2 = false) (hnar : narrow (ty k0) v = v) (hfit : fits (ty k0) v = true) (hk0 : k0 < N) (hlen : k0 < fs.length) (hw : w.set q (a, .inr (ci, fs.set k0 v)) = w') (k : J w' pc' lv (st)) : J w pc lv (v :: .ref a :: st) := by
  obtain ⟨p, l, e, s, m, args, below, meth, c, D, A, cells, slots, Q, rfl, hx, hb, hml, hown, hts, hlk, hK, hZ, hA, hcc, hss⟩ := h
  obtain ⟨hd, rfl⟩ := hd
  intro H locs ls hP hD hS hl
  exact va_put (ci := ci) (C := C) (T := T) (N := N) hx hb hts hc.2.1 ty hc.2.2.1 hc.2.2.2 hown hK hP hD hS q he hc.1 k0 hk0 (hts _ hf) (fun _ h9 => h9) hfin (hc.2.2.1 k0 hk0) hnar hfit hlen hd (fun H locs hP hD hS => k H locs ls (by rw [← hw]; exact hP) (by rw [← hw]; exact hD) hS hl)
theorem z_iald {a n : Nat} {i : Int32} {f : Nat → Int32} (h : zOK g J cc nL own R) (hd : zd cc pc (.iaload) 1 pc') (q j : Nat) (he : w[q]? = some (a, .inl (g 0 0, n, .inl f))) (hi : i = nI j) (hj : j < n) (hn : n < 2 ^ 31) (k : J w pc' lv (.int (f j) :: st)) : J w pc lv (.int i :: .ref a :: st) := by
  obtain ⟨p, l, e, s, m, args, below, meth, c, D, A, cells, slots, Q, rfl, hx, hb, hml, hown, hts, hlk, hK, hZ, hA, hcc, hss⟩ := h
  obtain ⟨hd, rfl⟩ := hd
  intro H locs ls hP hD hS hl
  exact (by
    have hc2 : i.toNatClampNeg = j := by rw [hi]; exact nI_clamp (Nat.lt_trans hj hn)
    exact va_iald hx hb hK hP q 0 he rfl (by rw [hi]; exact vp_in_nI hj hn) hd (by rw [hc2]; exact k H locs ls hP hD hS hl))
theorem z_iast {a n : Nat} {i : Int32} {f : Nat → Int32} {x : Int32} (h : zOK g J cc nL own R) (hd : zd cc pc (.iastore) 1 pc') (q j : Nat) (he : w[q]? = some (a, .inl (g 0 0, n, .inl f))) (hi : i = nI j) (hj : j < n) (hn : n < 2 ^ 31) (hw : w.set q (a, .inl (g 0 0, n, .inl (upd f j x))) = w') (k : J w' pc' lv (st)) : J w pc lv (.int x :: .int i :: .ref a :: st) := by
  obtain ⟨p, l, e, s, m, args, below, meth, c, D, A, cells, slots, Q, rfl, hx, hb, hml, hown, hts, hlk, hK, hZ, hA, hcc, hss⟩ := h
  obtain ⟨hd, rfl⟩ := hd
  intro H locs ls hP hD hS hl
  exact (by
    have hc2 : i.toNatClampNeg = j := by rw [hi]; exact nI_clamp (Nat.lt_trans hj hn)
    exact va_iast hx hb hK hP hD hS q 0 he rfl (by rw [hi]; exact vp_in_nI hj hn) hd (fun H locs hP hD hS => k H locs ls (by rw [← hw, ← hc2]; exact hP) (by rw [← hw, ← hc2]; exact hD) hS hl))
theorem z_lald {a n : Nat} {i : Int32} {f : Nat → Int64} (h : zOK g J cc nL own R) (hd : zd cc pc (.laload) 1 pc') (q j : Nat) (he : w[q]? = some (a, .inl (g 0 1, n, .inr (.inl f)))) (hi : i = nI j) (hj : j < n) (hn : n < 2 ^ 31) (k : J w pc' lv (.long (f j) :: st)) : J w pc lv (.int i :: .ref a :: st) := by
  obtain ⟨p, l, e, s, m, args, below, meth, c, D, A, cells, slots, Q, rfl, hx, hb, hml, hown, hts, hlk, hK, hZ, hA, hcc, hss⟩ := h
  obtain ⟨hd, rfl⟩ := hd
  intro H locs ls hP hD hS hl
  exact (by
    have hc2 : i.toNatClampNeg = j := by rw [hi]; exact nI_clamp (Nat.lt_trans hj hn)
    exact va_lald hx hb hK hP q 1 he rfl (by rw [hi]; exact vp_in_nI hj hn) hd (by rw [hc2]; exact k H locs ls hP hD hS hl))
theorem z_last {a n : Nat} {i : Int32} {f : Nat → Int64} {x : Int64} (h : zOK g J cc nL own R) (hd : zd cc pc (.lastore) 1 pc') (q j : Nat) (he : w[q]? = some (a, .inl (g 0 1, n, .inr (.inl f)))) (hi : i = nI j) (hj : j < n) (hn : n < 2 ^ 31) (hw : w.set q (a, .inl (g 0 1, n, .inr (.inl (vp_updL f j x)))) = w') (k : J w' pc' lv (st)) : J w pc lv (.long x :: .int i :: .ref a :: st) := by
  obtain ⟨p, l, e, s, m, args, below, meth, c, D, A, cells, slots, Q, rfl, hx, hb, hml, hown, hts, hlk, hK, hZ, hA, hcc, hss⟩ := h
  obtain ⟨hd, rfl⟩ := hd
  intro H locs ls hP hD hS hl
  exact (by
    have hc2 : i.toNatClampNeg = j := by rw [hi]; exact nI_clamp (Nat.lt_trans hj hn)
    exact va_last hx hb hK hP hD hS q 1 he rfl (by rw [hi]; exact vp_in_nI hj hn) hd (fun H locs hP hD hS => k H locs ls (by rw [← hw, ← hc2]; exact hP) (by rw [← hw, ← hc2]; exact hD) hS hl))
theorem z_aald {a n b : Nat} {i : Int32} {f : Nat → Option Nat} (h : zOK g J cc nL own R) (hd : zd cc pc (.aaload) 1 pc') (q j : Nat) (he : w[q]? = some (a, .inl (g 0 2, n, .inr (.inr (.inr (.inr f)))))) (hi : i = nI j) (hj : j < n) (hn : n < 2 ^ 31) (hb2 : f j = some b) (k : J w pc' lv (.ref b :: st)) : J w pc lv (.int i :: .ref a :: st) := by
  obtain ⟨p, l, e, s, m, args, below, meth, c, D, A, cells, slots, Q, rfl, hx, hb, hml, hown, hts, hlk, hK, hZ, hA, hcc, hss⟩ := h
  obtain ⟨hd, rfl⟩ := hd
  intro H locs ls hP hD hS hl
  exact (by
    have hc2 : i.toNatClampNeg = j := by rw [hi]; exact nI_clamp (Nat.lt_trans hj hn)
    exact va_aldq hx hb hK hP q 2 he rfl (by rw [hi]; exact vp_in_nI hj hn) hd (by rw [hc2, hb2]; exact k H locs ls hP hD hS hl))
theorem z_alen {a : Nat} {x : vp_A} {v : Int32} {cA : ClassId} {ty : FieldType} (h : zOK g J cc nL own R) (hd : zd cc pc (.arraylength) 1 pc') (q t : Nat) (he : w[q]? = some (a, .inl (cA, x))) (ht : (ztys g)[t]? = some (cA, ty)) (hv : Int32.ofNat x.1 = v) (k : J w pc' lv (.int v :: st)) : J w pc lv (.ref a :: st) := by
  obtain ⟨p, l, e, s, m, args, below, meth, c, D, A, cells, slots, Q, rfl, hx, hb, hml, hown, hts, hlk, hK, hZ, hA, hcc, hss⟩ := h
  obtain ⟨hd, rfl⟩ := hd
  intro H locs ls hP hD hS hl
  exact va_alen hx hb hK hP q t he ht hv hd (k H locs ls hP hD hS hl)
theorem z_gs3 {idx : Nat} (h : zOK g J cc nL own R) (hd : zd cc pc (.getstatic idx) 3 pc') (hf : Cond.fieldLink own idx "SixFellows" "KIND_ABOVE" "[I" ∈ zT) (k : J w pc' lv (.ref (g 0 3) :: st)) : J w pc lv (st) := by
  obtain ⟨p, l, e, s, m, args, below, meth, c, D, A, cells, slots, Q, rfl, hx, hb, hml, hown, hts, hlk, hK, hZ, hA, hcc, hss⟩ := h
  obtain ⟨hd, rfl⟩ := hd
  intro H locs ls hP hD hS hl
  exact va_gets hx hb hZ.2.2.1.1 hS hown (hts _ hf) (fun _ h9 => h9) hd (k H locs ls hP hD hS hl)
theorem z_ti3 {i : Int32} (h : zOK g J cc nL own R) (hd : zd cc pc (.iaload) 1 pc') (j : Nat) (hi : i = nI j) (hj : j < 6) (k : J w pc' lv (.int (zka j) :: st)) : J w pc lv (.int i :: .ref (g 0 3) :: st) := by
  obtain ⟨p, l, e, s, m, args, below, meth, c, D, A, cells, slots, Q, rfl, hx, hb, hml, hown, hts, hlk, hK, hZ, hA, hcc, hss⟩ := h
  obtain ⟨hd, rfl⟩ := hd
  intro H locs ls hP hD hS hl
  exact va_ti hx hb hZ.2.2.1.2 hS (by rw [hi]; exact vp_in_nI hj (by decide)) (by rw [hi, nI_clamp (Nat.lt_trans hj (by decide))]) hd (k H locs ls hP hD hS hl)
theorem z_gs4 {idx : Nat} (h : zOK g J cc nL own R) (hd : zd cc pc (.getstatic idx) 3 pc') (hf : Cond.fieldLink own idx "SixFellows" "FACTORIALS" "[I" ∈ zT) (k : J w pc' lv (.ref (g 0 4) :: st)) : J w pc lv (st) := by
  obtain ⟨p, l, e, s, m, args, below, meth, c, D, A, cells, slots, Q, rfl, hx, hb, hml, hown, hts, hlk, hK, hZ, hA, hcc, hss⟩ := h
  obtain ⟨hd, rfl⟩ := hd
  intro H locs ls hP hD hS hl
  exact va_gets hx hb hZ.2.2.2.1.1 hS hown (hts _ hf) (fun _ h9 => h9) hd (k H locs ls hP hD hS hl)
theorem z_ti4 {i : Int32} (h : zOK g J cc nL own R) (hd : zd cc pc (.iaload) 1 pc') (j : Nat) (hi : i = nI j) (hj : j < 8) (k : J w pc' lv (.int (zfa j) :: st)) : J w pc lv (.int i :: .ref (g 0 4) :: st) := by
  obtain ⟨p, l, e, s, m, args, below, meth, c, D, A, cells, slots, Q, rfl, hx, hb, hml, hown, hts, hlk, hK, hZ, hA, hcc, hss⟩ := h
  obtain ⟨hd, rfl⟩ := hd
  intro H locs ls hP hD hS hl
  exact va_ti hx hb hZ.2.2.2.1.2 hS (by rw [hi]; exact vp_in_nI hj (by decide)) (by rw [hi, nI_clamp (Nat.lt_trans hj (by decide))]) hd (k H locs ls hP hD hS hl)
theorem z_gs5 {idx : Nat} (h : zOK g J cc nL own R) (hd : zd cc pc (.getstatic idx) 3 pc') (hf : Cond.fieldLink own idx "SixFellows" "WEIGHT_OF_ORDER" "[I" ∈ zT) (k : J w pc' lv (.ref (g 0 5) :: st)) : J w pc lv (st) := by
  obtain ⟨p, l, e, s, m, args, below, meth, c, D, A, cells, slots, Q, rfl, hx, hb, hml, hown, hts, hlk, hK, hZ, hA, hcc, hss⟩ := h
  obtain ⟨hd, rfl⟩ := hd
  intro H locs ls hP hD hS hl
  exact va_gets hx hb hZ.2.2.2.2.1.1 hS hown (hts _ hf) (fun _ h9 => h9) hd (k H locs ls hP hD hS hl)
theorem z_ti5 {i : Int32} (h : zOK g J cc nL own R) (hd : zd cc pc (.iaload) 1 pc') (j : Nat) (hi : i = nI j) (hj : j < 8) (k : J w pc' lv (.int (zwt j) :: st)) : J w pc lv (.int i :: .ref (g 0 5) :: st) := by
  obtain ⟨p, l, e, s, m, args, below, meth, c, D, A, cells, slots, Q, rfl, hx, hb, hml, hown, hts, hlk, hK, hZ, hA, hcc, hss⟩ := h
  obtain ⟨hd, rfl⟩ := hd
  intro H locs ls hP hD hS hl
  exact va_ti hx hb hZ.2.2.2.2.1.2 hS (by rw [hi]; exact vp_in_nI hj (by decide)) (by rw [hi, nI_clamp (Nat.lt_trans hj (by decide))]) hd (k H locs ls hP hD hS hl)
theorem z_gsC {idx : Nat} (h : zOK g J cc nL own R) (hd : zd cc pc (.getstatic idx) 3 pc') (hf : Cond.fieldLink own idx "java/lang/String" "COMPACT_STRINGS" "Z" ∈ zT) (k : J w pc' lv (.int 1 :: st)) : J w pc lv (st) := by
  obtain ⟨p, l, e, s, m, args, below, meth, c, D, A, cells, slots, Q, rfl, hx, hb, hml, hown, hts, hlk, hK, hZ, hA, hcc, hss⟩ := h
  obtain ⟨hd, rfl⟩ := hd
  intro H locs ls hP hD hS hl
  exact va_gets hx hb hZ.2.2.2.2.2.1.1 hS hown (hts _ hf) (fun _ h9 => h9) hd (k H locs ls hP hD hS hl)
theorem z_gsQ {idx : Nat} (h : zOK g J cc nL own R) (hd : zd cc pc (.getstatic idx) 3 pc') (hf : Cond.fieldLink own idx "jdk/internal/util/Preconditions" "SIOOBE_FORMATTER" "Ljava/util/function/BiFunction;" ∈ zT) (k1 : J w pc' lv (.null :: st)) (k2 : ∀ t : Nat, J w pc' lv (.ref t :: st)) : J w pc lv st := by
  obtain ⟨p, l, e, s, m, args, below, meth, c, D, A, cells, slots, Q, rfl, hx, hb, hml, hown, hts, hlk, hK, hZ, hA, hcc, hss⟩ := h
  obtain ⟨hd, rfl⟩ := hd
  intro H locs ls hP hD hS hl
  rcases hZ.2.2.2.2.2.1.2 with q | ⟨t, q⟩
  · exact va_gets hx hb q hS hown (hts _ hf) (fun _ h9 => h9) hd (k1 H locs ls hP hD hS hl)
  · exact va_gets hx hb q hS hown (hts _ hf) (fun _ h9 => h9) hd (k2 t H locs ls hP hD hS hl)
theorem z_tcod {idx i : Nat} (h : zOK g J cc nL own R) (hd : zd cc pc (.getfield idx) 3 pc') (hf : Cond.fieldLink own idx "java/lang/String" "coder" "B" ∈ zT) (hi : i < 20) (k : J w pc' lv (.int 0 :: st)) : J w pc lv (.ref (g 1 i) :: st) := by
  obtain ⟨p, l, e, s, m, args, below, meth, c, D, A, cells, slots, Q, rfl, hx, hb, hml, hown, hts, hlk, hK, hZ, hA, hcc, hss⟩ := h
  obtain ⟨hd, rfl⟩ := hd
  intro H locs ls hP hD hS hl
  exact vk_getf hx hb (hZ.2.2.2.2.2.2.1 i hi).2.1 hS hown (hts _ hf) (fun _ h9 => h9) hd (k H locs ls hP hD hS hl)
theorem z_tval {idx i : Nat} (h : zOK g J cc nL own R) (hd : zd cc pc (.getfield idx) 3 pc') (hf : Cond.fieldLink own idx "java/lang/String" "value" "[B" ∈ zT) (hi : i < 20) (k : J w pc' lv (.ref (g 2 i) :: st)) : J w pc lv (.ref (g 1 i) :: st) := by
  obtain ⟨p, l, e, s, m, args, below, meth, c, D, A, cells, slots, Q, rfl, hx, hb, hml, hown, hts, hlk, hK, hZ, hA, hcc, hss⟩ := h
  obtain ⟨hd, rfl⟩ := hd
  intro H locs ls hP hD hS hl
  exact vk_getf hx hb (hZ.2.2.2.2.2.2.1 i hi).2.2.1 hS hown (hts _ hf) (fun _ h9 => h9) hd (k H locs ls hP hD hS hl)
theorem z_tlen {i : Nat} {v : Int32} (h : zOK g J cc nL own R) (hd : zd cc pc (.arraylength) 1 pc') (hi : i < 20) (hv : Int32.ofNat (zlen.getD i 0) = v) (k : J w pc' lv (.int v :: st)) : J w pc lv (.ref (g 2 i) :: st) := by
  obtain ⟨p, l, e, s, m, args, below, meth, c, D, A, cells, slots, Q, rfl, hx, hb, hml, hown, hts, hlk, hK, hZ, hA, hcc, hss⟩ := h
  obtain ⟨hd, rfl⟩ := hd
  intro H locs ls hP hD hS hl
  exact va_tlen hx hb (hZ.2.2.2.2.2.2.1 i hi).2.2.2 hS hv hd (k H locs ls hP hD hS hl)
theorem z_tb {i : Nat} {x : Int32} (h : zOK g J cc nL own R) (hd : zd cc pc (.baload) 1 pc') (j : Nat) (hi : i < 20) (hx2 : x = nI j) (hj : j < zlen.getD i 0) (hn : zlen.getD i 0 < 2 ^ 31) (k : J w pc' lv (.int ((zbyt.getD i []).getD j 0) :: st)) : J w pc lv (.int x :: .ref (g 2 i) :: st) := by
  obtain ⟨p, l, e, s, m, args, below, meth, c, D, A, cells, slots, Q, rfl, hx, hb, hml, hown, hts, hlk, hK, hZ, hA, hcc, hss⟩ := h
  obtain ⟨hd, rfl⟩ := hd
  intro H locs ls hP hD hS hl
  exact va_tb hx hb (hZ.2.2.2.2.2.2.1 i hi).2.2.2 hS (by rw [hx2]; exact vp_in_nI hj hn) (by rw [hx2, nI_clamp (Nat.lt_trans hj hn)]) hd (k H locs ls hP hD hS hl)
theorem z_mmax {idx : Nat} {x y : Int32} (h : zOK g J cc nL own R) (hd : zd cc pc (.invokestatic idx) 3 pc') (hc : Cond.methodLink own idx Lib.Math.max.name ∈ zT ∧ Cond.static Lib.Math.max.name ∈ zT ∧ Cond.initialized "java/lang/Math" ∈ zT ∧ Cond.code Lib.Math.max.name Lib.Math.max.code 2 (some .int) ∈ zT) (hr : (st.map fun v => v.category).sum ≤ 8) (hR : 1 ≤ R.frames ∧ 8 + 13 ≤ R.locals) (k : J w pc' lv (.int (if x < y then y else x) :: st)) : J w pc lv (.int y :: .int x :: st) := by
  obtain ⟨p, l, e, s, m, args, below, meth, c, D, A, cells, slots, Q, rfl, hx, hb, hml, hown, hts, hlk, hK, hZ, hA, hcc, hss⟩ := h
  obtain ⟨hd, rfl⟩ := hd
  intro H locs ls hP hD hS hl
  exact va_mmax hx hb (hml.trans hl.1.symm) hown (hts _ hc.1) (hts _ hc.2.1) (hts _ hc.2.2.1) (hts _ hc.2.2.2) hR.1 (Nat.le_trans (Nat.add_le_add_right hr 13) hR.2) hcc hss hd (k H locs ls hP hD hS hl)
theorem z_mmin {idx : Nat} {x y : Int32} (h : zOK g J cc nL own R) (hd : zd cc pc (.invokestatic idx) 3 pc') (hc : Cond.methodLink own idx Lib.Math.min.name ∈ zT ∧ Cond.static Lib.Math.min.name ∈ zT ∧ Cond.initialized "java/lang/Math" ∈ zT ∧ Cond.code Lib.Math.min.name Lib.Math.min.code 2 (some .int) ∈ zT) (hr : (st.map fun v => v.category).sum ≤ 8) (hR : 1 ≤ R.frames ∧ 8 + 13 ≤ R.locals) (k : J w pc' lv (.int (if y < x then y else x) :: st)) : J w pc lv (.int y :: .int x :: st) := by
  obtain ⟨p, l, e, s, m, args, below, meth, c, D, A, cells, slots, Q, rfl, hx, hb, hml, hown, hts, hlk, hK, hZ, hA, hcc, hss⟩ := h
  obtain ⟨hd, rfl⟩ := hd
  intro H locs ls hP hD hS hl
  exact va_mmin hx hb (hml.trans hl.1.symm) hown (hts _ hc.1) (hts _ hc.2.1) (hts _ hc.2.2.1) (hts _ hc.2.2.2) hR.1 (Nat.le_trans (Nat.add_le_add_right hr 13) hR.2) hcc hss hd (k H locs ls hP hD hS hl)
theorem z_mabs {idx : Nat} {x : Int32} (h : zOK g J cc nL own R) (hd : zd cc pc (.invokestatic idx) 3 pc') (hc : Cond.methodLink own idx Lib.Math.abs.name ∈ zT ∧ Cond.static Lib.Math.abs.name ∈ zT ∧ Cond.initialized "java/lang/Math" ∈ zT ∧ Cond.code Lib.Math.abs.name Lib.Math.abs.code 1 (some .int) ∈ zT) (hr : (st.map fun v => v.category).sum ≤ 8) (hR : 1 ≤ R.frames ∧ 8 + 13 ≤ R.locals) (k : J w pc' lv (.int (if 0 ≤ x then x else 0 - x) :: st)) : J w pc lv (.int x :: st) := by
  obtain ⟨p, l, e, s, m, args, below, meth, c, D, A, cells, slots, Q, rfl, hx, hb, hml, hown, hts, hlk, hK, hZ, hA, hcc, hss⟩ := h
  obtain ⟨hd, rfl⟩ := hd
  intro H locs ls hP hD hS hl
  exact va_mabs hx hb (hml.trans hl.1.symm) hown (hts _ hc.1) (hts _ hc.2.1) (hts _ hc.2.2.1) (hts _ hc.2.2.2) hR.1 (Nat.le_trans (Nat.add_le_add_right hr 13) hR.2) hcc hss hd (k H locs ls hP hD hS hl)
theorem z_copyi {idx a0 a1 n0 n1 : Nat} {sp dp n : Int32} {f f1 : Nat → Int32} (h : zOK g J cc nL own R) (hd : zd cc pc (.invokestatic idx) 3 pc') (hc : Cond.methodLink own idx arraycopyName ∈ zT ∧ Cond.native arraycopyName ∈ zT ∧ Cond.static arraycopyName ∈ zT ∧ Cond.initialized "java/lang/System" ∈ zT) (q0 q1 : Nat) (he0 : w[q0]? = some (a0, .inl (g 0 0, n0, .inl f))) (he1 : w[q1]? = some (a1, .inl (g 0 0, n1, .inl f1))) (h1 : ¬ sp < 0) (h2 : ¬ dp < 0) (h3 : ¬ n < 0) (h4 : sp.toNatClampNeg + n.toNatClampNeg ≤ n0) (h5 : dp.toNatClampNeg + n.toNatClampNeg ≤ n1) (hr : (st.map fun v => v.category).sum ≤ 8) (hR : 1 ≤ R.frames ∧ 8 + (nativeFrameWords "java/lang/System" "arraycopy" 5 + 11) ≤ R.locals) (hw : w.set q1 (a1, .inl (g 0 0, n1, .inl (va_cpy f f1 sp.toNatClampNeg dp.toNatClampNeg n.toNatClampNeg))) = w') (k : J w' pc' lv (st)) : J w pc lv (.int n :: .int dp :: .ref a1 :: .int sp :: .ref a0 :: st) := by
  obtain ⟨p, l, e, s, m, args, below, meth, c, D, A, cells, slots, Q, rfl, hx, hb, hml, hown, hts, hlk, hK, hZ, hA, hcc, hss⟩ := h
  obtain ⟨hd, rfl⟩ := hd
  intro H locs ls hP hD hS hl
  exact va_copyi hx hb (hml.trans hl.1.symm) hown (hts _ hc.1) (hts _ hc.2.1) (hts _ hc.2.2.1) (hts _ hc.2.2.2) hK hP hD hS q0 q1 0 0 he0 he1 rfl rfl rfl h1 h2 h3 h4 h5 (fun i _ => rfl) hR.1 (Nat.le_trans (Nat.add_le_add_right hr _) hR.2) hd (fun H locs hP hD hS => k H locs ls (by rw [← hw]; exact hP) (by rw [← hw]; exact hD) hS hl)
theorem z_copyl {idx a0 a1 n0 n1 : Nat} {sp dp n : Int32} {f f1 : Nat → Int64} (h : zOK g J cc nL own R) (hd : zd cc pc (.invokestatic idx) 3 pc') (hc : Cond.methodLink own idx arraycopyName ∈ zT ∧ Cond.native arraycopyName ∈ zT ∧ Cond.static arraycopyName ∈ zT ∧ Cond.initialized "java/lang/System" ∈ zT) (q0 q1 : Nat) (he0 : w[q0]? = some (a0, .inl (g 0 1, n0, .inr (.inl f)))) (he1 : w[q1]? = some (a1, .inl (g 0 1, n1, .inr (.inl f1)))) (h1 : ¬ sp < 0) (h2 : ¬ dp < 0) (h3 : ¬ n < 0) (h4 : sp.toNatClampNeg + n.toNatClampNeg ≤ n0) (h5 : dp.toNatClampNeg + n.toNatClampNeg ≤ n1) (hr : (st.map fun v => v.category).sum ≤ 8) (hR : 1 ≤ R.frames ∧ 8 + (nativeFrameWords "java/lang/System" "arraycopy" 5 + 11) ≤ R.locals) (hw : w.set q1 (a1, .inl (g 0 1, n1, .inr (.inl (va_cpy f f1 sp.toNatClampNeg dp.toNatClampNeg n.toNatClampNeg)))) = w') (k : J w' pc' lv (st)) : J w pc lv (.int n :: .int dp :: .ref a1 :: .int sp :: .ref a0 :: st) := by
  obtain ⟨p, l, e, s, m, args, below, meth, c, D, A, cells, slots, Q, rfl, hx, hb, hml, hown, hts, hlk, hK, hZ, hA, hcc, hss⟩ := h
  obtain ⟨hd, rfl⟩ := hd
  intro H locs ls hP hD hS hl
  exact va_copyl hx hb (hml.trans hl.1.symm) hown (hts _ hc.1) (hts _ hc.2.1) (hts _ hc.2.2.1) (hts _ hc.2.2.2) hK hP hD hS q0 q1 1 1 he0 he1 rfl rfl rfl h1 h2 h3 h4 h5 (fun i _ => rfl) hR.1 (Nat.le_trans (Nat.add_le_add_right hr _) hR.2) hd (fun H locs hP hD hS => k H locs ls (by rw [← hw]; exact hP) (by rw [← hw]; exact hD) hS hl)
theorem z_c {x y : Int32} (e : x = y) (k : J w pc lv (.int y :: st)) : J w pc lv (.int x :: st) := e ▸ k
theorem z_cl {x y : Int64} (e : x = y) (k : J w pc lv (.long y :: st)) : J w pc lv (.long x :: st) := e ▸ k
theorem z_w (e : w = w') (k : J w' pc lv st) : J w pc lv st := e ▸ k
theorem z_lv (e : lv = lv') (k : J w pc lv' st) : J w pc lv st := e ▸ k
theorem z_ri {x y : Int32} (k : ∀ pc pc' lv, zd cc pc .ireturn 1 pc' → J w' pc lv [.int y]) (hd : zd cc pc .ireturn 1 pc') (e : x = y) (ew : w = w') : J w pc lv [.int x] := by
  subst e
  subst ew
  exact k _ _ _ hd
theorem z_rl {x y : Int64} (k : ∀ pc pc' lv, zd cc pc .lreturn 1 pc' → J w' pc lv [.long y]) (hd : zd cc pc .lreturn 1 pc') (e : x = y) (ew : w = w') : J w pc lv [.long x] := by
  subst e
  subst ew
  exact k _ _ _ hd
theorem z_rv (k : ∀ pc pc' lv, zd cc pc .return_ 1 pc' → J w' pc lv []) (hd : zd cc pc .return_ 1 pc') (ew : w = w') : J w pc lv [] := by
  subst ew
  exact k _ _ _ hd
theorem z_ra {x y : Nat} (k : ∀ pc pc' lv, zd cc pc .areturn 1 pc' → J w' pc lv [.ref y]) (hd : zd cc pc .areturn 1 pc') (e : x = y) (ew : w = w') : J w pc lv [.ref x] := by
  subst e
  subst ew
  exact k _ _ _ hd
end zRules
/-! ===== contracts ===== -/
def zQ (D : va_G) (rv : List Value) (w' : va_W) (A : Nat → Prop) : Array Value → State → Outcome → State → Prop := fun _ st oc t => oc = .returned rv.head? ∧ va_P D zCl w' t.heap ∧ va_D A w' ∧ va_F A st t
def zPc (g : Nat → Nat → Nat) (D : va_G) (av : List Value) (w : va_W) (sz : Nat) : Array Value → State → Prop := va_Pc av (fun U => U.heap.size = sz ∧ va_P D zCl w U.heap ∧ va_K D zCl (ztys g) U ∧ va_D (fun _ => True) w ∧ zZ g (va_A w sz) U U.heap)
theorem zPc.blind {g : Nat → Nat → Nat} {D : va_G} {av : List Value} {w : va_W} {sz : Nat} : FrameBlind (zPc g D av w sz) := fun a U f mk q => by
  obtain ⟨q0, q1, qP, qK, qD, qZ⟩ := q
  exact ⟨q0, q1, qP, va_K.moved (u := U) (U := U.calling f mk a) (Vm.Alike.refl U.vm) qK, qD, qZ.blind⟩
/-- THE CONTRACT: called with the values av in the world w it returns rv (none or one) and the world is w' -/
def zM (g : Nat → Nat → Nat) (y : MethodName) (cc : ByteArray) (nL : Nat) (ret : Option FieldType) (d : Nat) (av : List Value) (w : va_W) (rv : List Value) (w' : va_W) : Prop :=
  ∀ (l : Launch) (D : va_G) (sz : Nat), Met l y (zws y cc nL ret) (zr d) (zPc g D av w sz) (zQ D rv w' (va_A w sz)) 0 0 (va_A w sz)
section zIntro
variable {g : Nat → Nat → Nat} {y : MethodName} {cc : ByteArray} {nL d : Nat} {av : List Value} {w w' : va_W} {lv : zLV}
theorem zM.of {ret : Option FieldType} {rv : List Value} (hy : plainName y.cls = true) (hsl : (lg_sl av).length ≤ nL) (hlv : lv_args 0 av = lv)
    (body : ∀ (p : Program) (l : Launch) (e : Env) (s : State) (m : MethodId) (args : Array Value) (below : List Frame) (meth : Method) (c : Code) (D : va_G) (A : Nat → Prop),
      p.tables.exec = Jvm.exec → c.code = cc → meth.sig.returnType = ret → meth.locks = false →
      zOK g (zJ p l e (zr d) s m args below meth c D A nL 0 0 (MQ below (zQ D rv w' A) args s 0 0 A)) cc nL y.cls (zr d) → zJ p l e (zr d) s m args below meth c D A nL 0 0 (MQ below (zQ D rv w' A) args s 0 0 A) w 0 lv []) : zM g y cc nL ret d av w rv w' := by
  intro l D sz
  refine Met.ofW (cc := cc) (maxL := nL) (ret := ret) hy rfl ?_
  intro p e s m args below meth c s₁ B hml hv
  obtain ⟨rfl, hsz, hP, hK, hD0, hZ⟩ := hv
  have hts := atoms_spec (ws := zws y cc nL ret) B.pre
  have hown : s.vm.findClass y.cls = some m.cls := findClass_of_methodNamed B.named
  subst hsz
  have hD := hD0.self (sz := s.heap.size)
  have hl := lv_entry av (n := nL) hsl
  rw [lg_entry_eq]
  rw [hlv] at hl
  exact body p l e s m _ below meth c D (va_A w s.heap.size) B.exec B.bytes B.returns B.notSynchronized ⟨p, l, e, s, m, _, below, meth, c, D, _, 0, 0, _, rfl, B.exec, B.bytes, hml, hown, fun w hw => hts w (List.mem_cons_of_mem _ hw), B.notSynchronized, hK, hZ, fun q h => Or.inr h, Nat.le_refl _, Nat.le_refl _⟩ s.heap [] _ hP hD va_S.rf hl
theorem zMi {r : Int32} (hy : plainName y.cls = true) (hsl : (lg_sl av).length ≤ nL) (hlv : lv_args 0 av = lv)
    (body : ∀ J, zOK g J cc nL y.cls (zr d) → (∀ pc pc' lv, zd cc pc .ireturn 1 pc' → J w' pc lv [.int r]) → J w 0 lv []) : zM g y cc nL (some .int) d av w [.int r] w' := by
  refine zM.of hy hsl hlv (fun p l e s m args below meth c D A hx hb hr hlk hJ => body _ hJ ?_)
  intro pc pc' lv hd H locs ls hP hD hS hl
  exact W.iret hx hb hr (fun t ht hW => ⟨rfl, by rw [ht]; exact hP, hD, hS.F ht⟩) hS.2.2 hd.1
theorem zMz {r : Bool} (hy : plainName y.cls = true) (hsl : (lg_sl av).length ≤ nL) (hlv : lv_args 0 av = lv)
    (body : ∀ J, zOK g J cc nL y.cls (zr d) → (∀ pc pc' lv, zd cc pc .ireturn 1 pc' → J w' pc lv [.int (zB r)]) → J w 0 lv []) : zM g y cc nL (some .boolean) d av w [.int (zB r)] w' := by
  refine zM.of hy hsl hlv (fun p l e s m args below meth c D A hx hb hr hlk hJ => body _ hJ ?_)
  intro pc pc' lv hd H locs ls hP hD hS hl
  exact W.zret hx hb hr (zB_nar r) (fun t ht hW => ⟨rfl, by rw [ht]; exact hP, hD, hS.F ht⟩) hS.2.2 hd.1
theorem zMc {r : Int32} (hn : narrow .char (.int r) = .int r) (hy : plainName y.cls = true) (hsl : (lg_sl av).length ≤ nL) (hlv : lv_args 0 av = lv)
    (body : ∀ J, zOK g J cc nL y.cls (zr d) → (∀ pc pc' lv, zd cc pc .ireturn 1 pc' → J w' pc lv [.int r]) → J w 0 lv []) : zM g y cc nL (some .char) d av w [.int r] w' := by
  refine zM.of hy hsl hlv (fun p l e s m args below meth c D A hx hb hr hlk hJ => body _ hJ ?_)
  intro pc pc' lv hd H locs ls hP hD hS hl
  exact W.zret hx hb hr hn (fun t ht hW => ⟨rfl, by rw [ht]; exact hP, hD, hS.F ht⟩) hS.2.2 hd.1
theorem zMbt {r : Int32} (hn : narrow .byte (.int r) = .int r) (hy : plainName y.cls = true) (hsl : (lg_sl av).length ≤ nL) (hlv : lv_args 0 av = lv)
    (body : ∀ J, zOK g J cc nL y.cls (zr d) → (∀ pc pc' lv, zd cc pc .ireturn 1 pc' → J w' pc lv [.int r]) → J w 0 lv []) : zM g y cc nL (some .byte) d av w [.int r] w' := by
  refine zM.of hy hsl hlv (fun p l e s m args below meth c D A hx hb hr hlk hJ => body _ hJ ?_)
  intro pc pc' lv hd H locs ls hP hD hS hl
  exact W.zret hx hb hr hn (fun t ht hW => ⟨rfl, by rw [ht]; exact hP, hD, hS.F ht⟩) hS.2.2 hd.1
theorem zMl {r : Int64} (hy : plainName y.cls = true) (hsl : (lg_sl av).length ≤ nL) (hlv : lv_args 0 av = lv)
    (body : ∀ J, zOK g J cc nL y.cls (zr d) → (∀ pc pc' lv, zd cc pc .lreturn 1 pc' → J w' pc lv [.long r]) → J w 0 lv []) : zM g y cc nL (some .long) d av w [.long r] w' := by
  refine zM.of hy hsl hlv (fun p l e s m args below meth c D A hx hb hr hlk hJ => body _ hJ ?_)
  intro pc pc' lv hd H locs ls hP hD hS hl
  exact W.lret hx hb hr (fun t ht hW => ⟨rfl, by rw [ht]; exact hP, hD, hS.F ht⟩) hS.2.2 hd.1
theorem zMv (hy : plainName y.cls = true) (hsl : (lg_sl av).length ≤ nL) (hlv : lv_args 0 av = lv)
    (body : ∀ J, zOK g J cc nL y.cls (zr d) → (∀ pc pc' lv, zd cc pc .return_ 1 pc' → J w' pc lv []) → J w 0 lv []) : zM g y cc nL none d av w [] w' := by
  refine zM.of hy hsl hlv (fun p l e s m args below meth c D A hx hb hr hlk hJ => body _ hJ ?_)
  intro pc pc' lv hd H locs ls hP hD hS hl
  exact W.vret hx hb hr (fun t ht hW => ⟨rfl, by rw [ht]; exact hP, hD, hS.F ht⟩) hS.2.2 hd.1
theorem zMa {r : Nat} {C : String} (hy : plainName y.cls = true) (hsl : (lg_sl av).length ≤ nL) (hlv : lv_args 0 av = lv)
    (body : ∀ J, zOK g J cc nL y.cls (zr d) → (∀ pc pc' lv, zd cc pc .areturn 1 pc' → J w' pc lv [.ref r]) → J w 0 lv []) : zM g y cc nL (some (.object C)) d av w [.ref r] w' := by
  refine zM.of hy hsl hlv (fun p l e s m args below meth c D A hx hb hr hlk hJ => body _ hJ ?_)
  intro pc pc' lv hd H locs ls hP hD hS hl
  exact W.aret hx hb hr (Or.inl ⟨C, rfl⟩) (Or.inr ⟨r, rfl⟩) (fun t ht hW => ⟨rfl, by rw [ht]; exact hP, hD, hS.F ht⟩) hS.2.2 hd.1
end zIntro
/-! ===== calls ===== -/
/-- the cells wc among those of w become wc': then w is w' -/
def zL (w wc wc' w' : va_W) : Prop := ∃ (isC isR perm : List Nat) (wr : va_W), isC.map (fun i => w[i]?) = wc.map some ∧ isR.map (fun i => w[i]?) = wr.map some ∧ va_nd isR = true ∧ (∀ i ∈ isR, i ∉ isC) ∧ va_nd isC = true ∧ perm.map (fun i => (wr ++ wc')[i]?) = w'.map some ∧ va_nd perm = true
theorem zpick {w w' : va_W} {is : List Nat} (h : is.map (fun i => w[i]?) = w'.map some) : is.filterMap (fun i => w[i]?) = w' := by
  induction is generalizing w' with
  | nil => cases w' with
    | nil => rfl
    | cons a l => cases h
  | cons i is ih => cases w' with
    | nil => cases h
    | cons a l =>
      simp only [List.map_cons, List.cons.injEq] at h
      rw [List.filterMap_cons, h.1, ih h.2]
theorem zrange_map (w : va_W) : (List.range w.length).map (fun i => w[i]?) = w.map some := by
  apply List.ext_getElem?
  intro i
  simp only [List.getElem?_map]
  by_cases h : i < w.length
  · rw [List.getElem?_range h, List.getElem?_eq_getElem h]; simp [List.getElem?_eq_getElem h]
  · rw [List.getElem?_eq_none (by simpa using h), List.getElem?_eq_none (by simpa using h)]; rfl
theorem znd_range : ∀ n : Nat, va_nd (List.range n) = true := by
  have h : ∀ l : List Nat, l.Nodup → va_nd l = true := by
    intro l
    induction l with
    | nil => intro _; rfl
    | cons a l ih =>
      intro hn
      have h2 := List.nodup_cons.mp hn
      simp only [va_nd, Bool.and_eq_true, decide_eq_true_eq]
      exact ⟨h2.1, ih h2.2⟩
  exact fun n => h _ List.nodup_range
theorem zL.id {w w' : va_W} : zL w w w' w' := ⟨List.range w.length, [], List.range w'.length, [], zrange_map w, rfl, rfl, (fun i h => absurd h List.not_mem_nil), znd_range _, by rw [List.nil_append]; exact zrange_map w', znd_range _⟩
theorem zL.nil {w : va_W} : zL w [] [] w := ⟨[], List.range w.length, List.range w.length, w, rfl, zrange_map w, znd_range _, (fun i _ h => absurd h List.not_mem_nil), rfl, by rw [List.append_nil]; exact zrange_map w, znd_range _⟩
section zCalls
variable {g : Nat → Nat → Nat} {J : va_W → Nat → zLV → List Value → Prop} {cc : ByteArray} {nL : Nat} {own : String} {R : Room} {w w' wc wc' : va_W} {pc pc' : Nat} {lv : zLV} {st : List Value} {y : MethodName} {bytes : ByteArray} {maxL idx n d : Nat} {ret : Option FieldType} {av rv rest : List Value}
/-- the words of a call, by the caller and the index: virtual, static, static of a nest mate -/
def zCV (own : String) (idx : Nat) (y : MethodName) (bytes : ByteArray) (maxL : Nat) (ret : Option FieldType) (n : Nat) : Prop := Cond.methodLink own idx y ∈ zT ∧ Cond.instanceMethod y ∈ zT ∧ Cond.selects y.cls y y ∈ zT ∧ Cond.initialized y.cls ∈ zT ∧ Cond.code y bytes maxL ret ∈ zT ∧ (y.cls ≠ "java/lang/invoke/MethodHandle" ∧ y.cls ≠ "java/lang/invoke/VarHandle" ∧ (parseMethodDescriptor y.desc).map (fun d => d.parameters.length) = some n) ∧ maxL ≤ 21
def zCS (own : String) (idx : Nat) (y : MethodName) (bytes : ByteArray) (maxL : Nat) (ret : Option FieldType) (n : Nat) : Prop := Cond.methodLink own idx y ∈ zT ∧ Cond.static y ∈ zT ∧ Cond.initialized y.cls ∈ zT ∧ Cond.code y bytes maxL ret ∈ zT ∧ (y.cls ≠ "java/lang/invoke/MethodHandle" ∧ y.cls ≠ "java/lang/invoke/VarHandle" ∧ (parseMethodDescriptor y.desc).map (fun d => d.parameters.length) = some n) ∧ maxL ≤ 21
def zCN (own : String) (idx : Nat) (y : MethodName) (bytes : ByteArray) (maxL : Nat) (ret : Option FieldType) (n : Nat) : Prop := (∃ h, (own, idx, y, h) ∈ zNl) ∧ Cond.static y ∈ zT ∧ Cond.initialized y.cls ∈ zT ∧ Cond.code y bytes maxL ret ∈ zT ∧ (y.cls ≠ "java/lang/invoke/MethodHandle" ∧ y.cls ≠ "java/lang/invoke/VarHandle" ∧ (parseMethodDescriptor y.desc).map (fun d => d.parameters.length) = some n) ∧ maxL ≤ 21
/-- a call's run, then what follows -/
theorem z_after {p : Program} {l : Launch} {e : Env} {s : State} {m : MethodId} {args : Array Value} {below : List Frame} {meth : Method} {c : Code} {D : va_G} {A : Nat → Prop} {cells slots : Nat} {Q : State → Prop} {H : Heap} {locs : List Loc} {ls : Array Slot} {a : Array Value}
    (hr : va_Run p l e R s m args below meth c H locs cells slots 0 0 (F0 m pc ls st) rest (zQ D rv wc' (va_A wc H.size) a) (va_A wc H.size)) (hlen : rv.length ≤ 1) (hL : zL w wc wc' w') (hP : va_P D zCl w H) (hD : va_D A w) (hS : va_S A s.heap H locs) (hA : ∀ q : Nat, s.heap.size ≤ q → A q)
    (k : ∀ (H1 : Heap) (locs1 : List Loc), va_P D zCl w' H1 → va_D A w' → va_S A s.heap H1 locs1 → W p l e R s m args below meth c H1 locs1 cells slots Q (F0 m (pc + 3) ls (rv ++ rest))) : W p l e R s m args below meth c H locs cells slots Q (F0 m pc ls st) := by
  intro T hT X
  obtain ⟨isC, isR, perm, wr, hC, hR, hn, hdis, hnC, hp, hnp⟩ := hL
  have hF := va_free hD hS hA isC hC
  obtain ⟨v, st₀, t, T', L, h0, X', hLq, e1, e2, ⟨hv, hP1, hD1, hz, hk⟩, stp⟩ := hr T hT X
  have hv := Outcome.returned.inj hv
  subst hv
  rw [h0] at hz hk
  have hk1 : ∀ q : Nat, q < H.size → ¬ va_A wc H.size q → T'.heap[q]? = H[q]? := fun q h1 h2 => by rw [e1]; exact hk q h1 h2
  obtain ⟨hPj, hDj⟩ := va_join hP hD isC isR hC hR hn hdis hk1 hF (by rw [e1]; exact hP1) hD1
  have hrv : rv.head?.toList = rv := by
    match rv, hlen with
    | [], _ => rfl
    | [x], _ => rfl
  obtain ⟨t2, a1, b1⟩ := k T'.heap (locs ++ L) (hPj.sub perm (zpick hp)) (hDj.sub perm hnp hp)
    ⟨Nat.le_trans hS.1 (by rw [e1]; exact hz), fun q h1 h2 => by rw [e1, hk q (Nat.lt_of_lt_of_le h1 hS.1) (fun z => h2 (hF q z))]; exact hS.2.1 q h1 h2, fun q hq => by
      rcases List.mem_append.mp hq with h | h
      · exact hS.2.2 q h
      · exact hF _ (hLq q h)⟩ T' rfl X'
  refine ⟨t2, stp t2 ?_, b1⟩
  rw [hrv]
  exact a1
theorem z_pre {p : Program} {s : State} {D : va_G} {A : Nat → Prop} {H : Heap} {locs : List Loc} (hL : zL w wc wc' w') (hP : va_P D zCl w H) (hD : va_D A w) (hS : va_S A s.heap H locs) (hA : ∀ q : Nat, s.heap.size ≤ q → A q) (hK : va_K D zCl (ztys g) s) (hZ : zZ g A s s.heap) : ∀ U : State, U.heap = H → s.WarmedH U.vm → zPc g D av wc H.size av.toArray U := by
  obtain ⟨isC, isR, perm, wr, hC, hR, hn, hdis, hnC, hp, hnp⟩ := hL
  intro U hU hW
  exact ⟨rfl, by rw [hU], by rw [hU]; exact hP.sub isC (zpick hC), va_K.moved hW.alike hK, (hD.sub isC hnC hC).weaken (fun _ _ _ _ => trivial), hZ.call hS hU hW (va_free hD hS hA isC hC)⟩
theorem z_roomy (hm : maxL ≤ 21) (hd : d + 1 ≤ R.frames ∧ 40 * d + 40 ≤ R.locals) : (zr d).frames + 1 ≤ R.frames ∧ 8 + (maxL + 11) + (zr d).locals ≤ R.locals := ⟨hd.1, by show 8 + (maxL + 11) + 40 * d ≤ R.locals; omega⟩
theorem z_callS (h : zOK g J cc nL own R) (hM : zM g y bytes maxL ret d av wc rv wc') (hc : zCS own idx y bytes maxL ret n) (hL : zL w wc wc' w') (hd : zd cc pc (.invokestatic idx) 3 pc') (hlen : rv.length ≤ 1) (hn : av.length = n) (hst : av.reverse ++ rest = st) (hr : (rest.map fun v => v.category).sum ≤ 8) (hdp : d + 1 ≤ R.frames ∧ 40 * d + 40 ≤ R.locals) (k : J w' pc' lv (rv ++ rest)) : J w pc lv st := by
  obtain ⟨p, l, e, s, m, args, below, meth, c, D, A, cells, slots, Q, rfl, hx, hb, hml, hown, hts, hlk, hK, hZ, hA, hcc, hss⟩ := h
  obtain ⟨hd, rfl⟩ := hd
  obtain ⟨c1, c2, c3, c4, c5, c6⟩ := hc
  intro H locs ls hP hD hS hl
  subst hst
  refine z_after (va_runS (As := av) (rest := rest) (own := own) (Ts := zT) (n := n) ⟨hx, hb, hml, hown, hts⟩ (hM l D H.size) ⟨callB_of n hts (zgd c4) rfl rfl rfl (hts _ c3) (hts _ c1) c5 (z_roomy c6 hdp), hts _ c2⟩ ⟨zPc.blind, z_pre (p := p) hL hP hD hS hA hK hZ⟩ rfl hn hl.1 rfl (lv_room hr) hd ⟨hcc, hss⟩) hlen hL hP hD hS hA (fun H1 locs1 a1 a2 a3 => k H1 locs1 ls a1 a2 a3 hl)
theorem z_callN (h : zOK g J cc nL own R) (hM : zM g y bytes maxL ret d av wc rv wc') (hc : zCN own idx y bytes maxL ret n) (hL : zL w wc wc' w') (hd : zd cc pc (.invokestatic idx) 3 pc') (hlen : rv.length ≤ 1) (hn : av.length = n) (hst : av.reverse ++ rest = st) (hr : (rest.map fun v => v.category).sum ≤ 8) (hdp : d + 1 ≤ R.frames ∧ 40 * d + 40 ≤ R.locals) (k : J w' pc' lv (rv ++ rest)) : J w pc lv st := by
  obtain ⟨p, l, e, s, m, args, below, meth, c, D, A, cells, slots, Q, rfl, hx, hb, hml, hown, hts, hlk, hK, hZ, hA, hcc, hss⟩ := h
  obtain ⟨hd, rfl⟩ := hd
  obtain ⟨⟨host, c1⟩, c2, c3, c4, c5, c6⟩ := hc
  intro H locs ls hP hD hS hl
  subst hst
  refine z_after (va_runSN (As := av) (rest := rest) (own := own) (host := host) (Ts := zT) (n := n) ⟨hx, hb, hml, hown, hts⟩ (hM l D H.size) ⟨va_cnB n hts (zgd c4) rfl rfl rfl (hZ.1 _ c1) (hts _ c3) c5 (z_roomy c6 hdp), hts _ c2, trivial⟩ ⟨zPc.blind, z_pre (p := p) hL hP hD hS hA hK hZ⟩ rfl hn hl.1 rfl (lv_room hr) hd ⟨hcc, hss⟩) hlen hL hP hD hS hA (fun H1 locs1 a1 a2 a3 => k H1 locs1 ls a1 a2 a3 hl)
theorem z_callV {b ci N : Nat} {fs : List Value} {T : u_T} {ty : Nat → FieldType} (h : zOK g J cc nL own R) (hM : zM g y bytes maxL ret d (.ref b :: av) wc rv wc') (hc : zCV own idx y bytes maxL ret n) (hL : zL w wc wc' w') (hd : zd cc pc (.invokevirtual idx) 3 pc') (hcl : zCls ci y.cls T N ty) (q : Nat) (he : w[q]? = some (b, .inr (ci, fs))) (hlen : rv.length ≤ 1) (hn : av.length = n) (hst : av.reverse ++ .ref b :: rest = st) (hr : (rest.map fun v => v.category).sum ≤ 8) (hdp : d + 1 ≤ R.frames ∧ 40 * d + 40 ≤ R.locals) (k : J w' pc' lv (rv ++ rest)) : J w pc lv st := by
  obtain ⟨p, l, e, s, m, args, below, meth, c, D, A, cells, slots, Q, rfl, hx, hb, hml, hown, hts, hlk, hK, hZ, hA, hcc, hss⟩ := h
  obtain ⟨hd, rfl⟩ := hd
  obtain ⟨c1, c2, c3, c4, c5, c6, c7⟩ := hc
  intro H locs ls hP hD hS hl
  subst hst
  refine z_after (va_runV (As := av) (rest := rest) (own := own) (C := y.cls) (Ts := zT) (n := n) ⟨hx, hb, hml, hown, hts⟩ (hM l D H.size) ⟨callB_of n hts (zgd c5) rfl rfl rfl (hts _ c4) (hts _ c1) c6 (z_roomy c7 hdp), hts _ c2, hts _ c3⟩ ⟨zPc.blind, va_recv hK hP hcl.1 he, z_pre (p := p) hL hP hD hS hA hK hZ⟩ rfl hn hl.1 rfl (lv_room hr) hd ⟨hcc, hss⟩) hlen hL hP hD hS hA (fun H1 locs1 a1 a2 a3 => k H1 locs1 ls a1 a2 a3 hl)
/-- a call on a text -/
theorem z_callT {i : Nat} (h : zOK g J cc nL own R) (hM : zM g y bytes maxL ret d (.ref (g 1 i) :: av) wc rv wc') (hc : zCV own idx y bytes maxL ret n) (hy : y.cls = "java/lang/String") (hi : i < 20) (hL : zL w wc wc' w') (hd : zd cc pc (.invokevirtual idx) 3 pc') (hlen : rv.length ≤ 1) (hn : av.length = n) (hst : av.reverse ++ .ref (g 1 i) :: rest = st) (hr : (rest.map fun v => v.category).sum ≤ 8) (hdp : d + 1 ≤ R.frames ∧ 40 * d + 40 ≤ R.locals) (k : J w' pc' lv (rv ++ rest)) : J w pc lv st := by
  obtain ⟨p, l, e, s, m, args, below, meth, c, D, A, cells, slots, Q, rfl, hx, hb, hml, hown, hts, hlk, hK, hZ, hA, hcc, hss⟩ := h
  obtain ⟨hd, rfl⟩ := hd
  obtain ⟨c1, c2, c3, c4, c5, c6, c7⟩ := hc
  intro H locs ls hP hD hS hl
  subst hst
  refine z_after (va_runV (As := av) (rest := rest) (own := own) (C := y.cls) (Ts := zT) (n := n) ⟨hx, hb, hml, hown, hts⟩ (hM l D H.size) ⟨callB_of n hts (zgd c5) rfl rfl rfl (hts _ c4) (hts _ c1) c6 (z_roomy c7 hdp), hts _ c2, hts _ c3⟩ ⟨zPc.blind, by rw [hy]; exact vk_recv hZ.2.2.2.2.2.2 hi hS, z_pre (p := p) hL hP hD hS hA hK hZ⟩ rfl hn hl.1 rfl (lv_room hr) hd ⟨hcc, hss⟩) hlen hL hP hD hS hA (fun H1 locs1 a1 a2 a3 => k H1 locs1 ls a1 a2 a3 hl)
end zCalls

theorem hc_Rd : zCls 0 "SixFellows$Road" T_Rd 12 ty_Rd := ⟨rfl, by
  have h : (u_ws "SixFellows$Road" T_Rd 12).all (fun w => decide (w ∈ lw_tbl) && goodWord w) = true := by decide +kernel
  intro w hw
  have h1 := List.all_eq_true.mp h w hw
  simp only [Bool.and_eq_true, decide_eq_true_eq] at h1
  exact List.mem_filter.mpr h1, by decide +kernel, by decide +kernel⟩
theorem hc_Sh : zCls 1 "SixFellows$Sheet" T_Sh 3 ty_Sh := ⟨rfl, by
  have h : (u_ws "SixFellows$Sheet" T_Sh 3).all (fun w => decide (w ∈ lw_tbl) && goodWord w) = true := by decide +kernel
  intro w hw
  have h1 := List.all_eq_true.mp h w hw
  simp only [Bool.and_eq_true, decide_eq_true_eq] at h1
  exact List.mem_filter.mpr h1, by decide +kernel, by decide +kernel⟩
theorem hc_Tp : zCls 2 "SixFellows$Tape" T_Tp 6 ty_Tp := ⟨rfl, by
  have h : (u_ws "SixFellows$Tape" T_Tp 6).all (fun w => decide (w ∈ lw_tbl) && goodWord w) = true := by decide +kernel
  intro w hw
  have h1 := List.all_eq_true.mp h w hw
  simp only [Bool.and_eq_true, decide_eq_true_eq] at h1
  exact List.mem_filter.mpr h1, by decide +kernel, by decide +kernel⟩
theorem hc_Sx : zCls 3 "SixFellows" T_Sx 8 ty_Sx := ⟨rfl, by
  have h : (u_ws "SixFellows" T_Sx 8).all (fun w => decide (w ∈ lw_tbl) && goodWord w) = true := by decide +kernel
  intro w hw
  have h1 := List.all_eq_true.mp h w hw
  simp only [Bool.and_eq_true, decide_eq_true_eq] at h1
  exact List.mem_filter.mpr h1, by decide +kernel, by decide +kernel⟩
theorem hc_Mo : zCls 4 "SixFellowsModel" T_Mo 21 ty_Mo := ⟨rfl, by
  have h : (u_ws "SixFellowsModel" T_Mo 21).all (fun w => decide (w ∈ lw_tbl) && goodWord w) = true := by decide +kernel
  intro w hw
  have h1 := List.all_eq_true.mp h w hw
  simp only [Bool.and_eq_true, decide_eq_true_eq] at h1
  exact List.mem_filter.mpr h1, by decide +kernel, by decide +kernel⟩
