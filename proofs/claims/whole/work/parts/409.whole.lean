/-! THE CLAIM OUT OF ONE WALK OF THE LAW'S BODY. Your part is whole_start (and what it stands on); all else here is the same for every law, but numbers. -/
def R_law : String := "SixFellowsLaw"
def lw_P (b : Addr) (xs : List Int32) (args : Array Value) (s : State) : Prop := args = #[.ref b] ∧ s.IntsAt b xs ∧ xs.length ≤ 3072 ∧ (Jvm.Cond.and given_1 narrow_1).before args s = true
def lw_Q (_ : Array Value) (s : State) (o : Outcome) (t : State) : Prop := o = .returned (some (.int 1)) ∧ Framed s o t [] 54 1432
def lw_Z (below : List Frame) (a : Array Value) (s : State) : State → Prop := fun t => ∃ o, t.status = .running ∧ Ended t below o ∧ lw_Q a s o t
/-- the law's own end, with 1 on the stack, nothing written that was there before, its room as the claim has it -/
theorem lw_ret {p : Program} {l : Launch} {e : Env} {s : State} {m : MethodId} {below : List Frame} {meth : Method} {c : Code} {b : Nat} (hx : p.tables.exec = Jvm.exec) (hb : c.code = code) (hr : meth.sig.returnType = ret) (hlocks : meth.locks = false) {pc : Nat} {H : Heap} {ls : Array Slot} (hdg : decode code pc = .ok (.ireturn, 1)) : W p l e room_1 s m #[Value.ref b] below meth c H [] 54 1432 (lw_Z below #[Value.ref b] s) (F0 m pc ls [.int 1]) := by
  intro T hT X
  obtain ⟨fs, hret, hrun, hended, hW, hframe⟩ := X.leave (v := some (.int 1)) (hlocks := hlocks) (fun h => by rw [hr] at h; cases h)
  have hmeth' : T.vm.method? m = some meth := X.method'
  refine ⟨T.setFrames fs, ?_, .returned (some (.int 1)), hrun, hended, rfl, ⟨_, rfl⟩, hW, hframe⟩
  jvm_step X.here [X.here.top, hx, hb, hdg, hmeth', hr, ret, narrow_b1]
  (try refine ⟨rfl, ?_⟩); (try refine ⟨rfl, ?_⟩)
  first | (intro acts; rw [hret _ acts rfl rfl rfl]) | rw [hret _ _ rfl rfl rfl]
  exact Steps.refl _
/-- what holds at the law's entry: the machine, the code, the tables' words (any of lw_tbl by 'hts w (by decide +kernel)'), the script of L ints xs at the cell b, what the Statement gives of the start (any of its parts by flat_of_before) -/
def lw_At (p : Program) (s : State) (m : MethodId) (meth : Method) (c : Code) (b L : Nat) (xs : Nat → Int32) : Prop :=
  p.tables.exec = Jvm.exec ∧ c.code = code ∧ meth.sig.returnType = ret ∧ c.maxLocals = 4 ∧ s.vm.findClass R_law = some m.cls ∧ (∀ w ∈ lw_tbl, w.before #[Value.ref b] s = true) ∧ va_X b L xs s s.heap ∧ b < s.heap.size ∧ meth.locks = false ∧ (Jvm.Cond.and given_1 narrow_1).before #[Value.ref b] s = true
theorem zRo_0 : zRo zP0 (upd (fun _ => 0) 0 0) := by
  have e : ∀ x, upd (fun _ => (0 : Int32)) 0 0 x = 0 := fun x => by
    unfold upd
    split <;> rfl
  exact ⟨e 0, e 1, e 2, fun p hp => ⟨e _, e _, e _, e _, by rw [e]; show (0 : Int32) = zB ((0 : Nat).testBit p); rw [Nat.zero_testBit]; rfl⟩, fun t ht => ⟨e _, e _, e _, e _⟩⟩
theorem zPi_0 : zPi zP0 := ⟨by decide, by decide, by decide⟩
theorem zRg_0 : zRg zP0 := ⟨by decide, ⟨0, by decide, rfl⟩, fun p hp => absurd hp (Nat.not_lt_zero p), fun t ht => absurd ht (Nat.not_lt_zero t)⟩
set_option maxRecDepth 100000 in
set_option maxHeartbeats 4000000 in
theorem whole_start {p : Program} {e : Env} {s : State} {m : MethodId} {below : List Frame} {meth : Method} {c : Code} (l : Launch) (hflags : l.flags = flags0) {b L : Nat} {xs : Nat → Int32} (hL : L ≤ 3072) (C0 : lw_At p s m meth c b L xs) : W p l e room_1 s m #[Value.ref b] below meth c s.heap [] 0 0 (lw_Z below #[Value.ref b] s) (entryFrame m ([Value.ref b] : List Value).toArray 4) := by
  obtain ⟨hx, hb, hr, hml, hown, hts, hX, hbl, hlocks, hgv⟩ := C0
  obtain ⟨g, D, hZ, hK, hAO⟩ := z_begin hts hgv
  have htz : ∀ w ∈ zT, w.before #[Value.ref b] s = true := fun w hw => hts w (List.mem_filter.mp hw).1
  have hA : ∀ q : Nat, s.heap.size ≤ q → (fun q : Nat => s.heap.size ≤ q) q := fun _ h => h
  have hbA : ¬ (fun q : Nat => s.heap.size ≤ q) b := Nat.not_le.mpr hbl
  have hl := lv_entry ([.ref b] : List Value) (n := 4) (Nat.le_of_ble_eq_true rfl)
  rw [lg_entry_eq]
  have hP : va_P D zCl [] s.heap := fun k q h => by simp at h
  have hD : va_D (fun q : Nat => s.heap.size ≤ q) [] := ⟨fun i j p q h => by simp at h, fun k q h => by simp at h⟩
  obtain ⟨J, hJe⟩ : ∃ J : Nat → Nat → va_W → Nat → zLV → List Value → Prop, J = (fun cells slots => zJ p l e room_1 s m #[Value.ref b] below meth c D (fun q : Nat => s.heap.size ≤ q) 4 cells slots (lw_Z below #[Value.ref b] s)) := ⟨_, rfl⟩
  have hO : zOA g meth.name J b_Lw_law 4 "SixFellowsLaw" room_1 := ⟨p, l, e, s, m, _, below, meth, c, D, _, _, hJe, hx, hb, hml, hown, htz, hlocks, hK, hZ, hA, rfl, hAO⟩
  have hsl : ∀ cn sn, zSl (J cn sn) b L xs := by
    intro cn sn w pc pc' lv st j hd hj k
    subst hJe
    obtain ⟨hd, rfl⟩ := hd
    intro H locs ls hP hD hS hl
    have k2 := k H locs ls hP hD hS hl
    refine va_sld hx hb hX hbl hbA hS (vp_in_nI hj (by omega)) hd ?_
    rw [nI_clamp (by omega)]
    exact k2
  have hln : ∀ (cn sn : Nat) (w : va_W) (pc pc' : Nat) (lv : zLV) (st : List Value), zd b_Lw_law pc .arraylength 1 pc' → J cn sn w pc' lv (.int (nI L) :: st) → J cn sn w pc lv (.ref b :: st) := by
    intro cn sn w pc pc' lv st hd k
    subst hJe
    obtain ⟨hd, rfl⟩ := hd
    intro H locs ls hP hD hS hl
    exact va_slen hx hb hX hbl hbA hS hd (k H locs ls hP hD hS hl)
  have hret : ∀ (w : va_W) (lv : zLV), J 54 1432 w 1331 lv [.int 1] := by
    intro w lv
    subst hJe
    intro H locs ls hP hD hS hl
    exact va_forget (fun q hq => hS.2.2 q hq) (lw_ret hx hb hr hlocks d_Lw_law_1331.1)
  have hst : J 0 0 [] 0 [(0, .ref b)] [] := by
    refine z_new (cn := 0) (sn := 0) (w := []) hO (Nat.le_of_ble_eq_true rfl) (Nat.le_of_ble_eq_true rfl) d_Lw_law_0 hc_Sx hL_Lw_7 hI_Sx hN_Sx hF_Sx (fun q0 => ?_)
    refine z_dup (hO.ok (Nat.le_of_ble_eq_true rfl) (Nat.le_of_ble_eq_true rfl)) d_Lw_law_3 rfl ?_
    refine z_cI (J := J) (cn := 1) (sn := 8) (lv := [(0, .ref b)]) (rest := [.ref q0]) (pre := []) hO m_Sx_init kI_Lw_9 d_Lw_law_4 (Nat.le_of_ble_eq_true rfl) ⟨by decide, by decide⟩ ⟨Nat.le_of_ble_eq_true rfl, Nat.le_of_ble_eq_true rfl⟩ (fun xa hxa => ?_)
    subst hxa
    refine z_astore_n (lv' := [(0, _), (1, _)]) (hO.ok (Nat.le_of_ble_eq_true rfl) (Nat.le_of_ble_eq_true rfl)) d_Lw_law_7 (by decide) rfl ?_
    refine z_new hO (Nat.le_of_ble_eq_true rfl) (Nat.le_of_ble_eq_true rfl) d_Lw_law_8 hc_Mo hL_Lw_10 hI_Mo hN_Mo hF_Mo (fun q1 => ?_)
    refine z_dup (hO.ok (Nat.le_of_ble_eq_true rfl) (Nat.le_of_ble_eq_true rfl)) d_Lw_law_11 rfl ?_
    refine z_cI (J := J) (cn := 42) (sn := 682) (lv := [(0, .ref b), (1, .ref (xa 0))]) (rest := [.ref q1]) (pre := xW g xa (fun _ => 0) zP0 zP0 zP0 ((fun _ => 0), 0, 0, 0, 0, 0) (fun _ => (0, 0, fun _ => 0)) (fun _ => 0) false) hO m_Mo_init kI_Lw_12 d_Lw_law_12 (Nat.le_of_ble_eq_true rfl) ⟨by decide, by decide⟩ ⟨Nat.le_of_ble_eq_true rfl, Nat.le_of_ble_eq_true rfl⟩ (fun mb hmb => ?_)
    subst hmb
    refine z_astore_n (lv' := [(0, _), (1, _), (2, _)]) (hO.ok (Nat.le_of_ble_eq_true rfl) (Nat.le_of_ble_eq_true rfl)) d_Lw_law_15 (by decide) rfl ?_
    refine z_iconst (v := 0) (hO.ok (Nat.le_of_ble_eq_true rfl) (Nat.le_of_ble_eq_true rfl)) d_Lw_law_16 (by decide) ?_
    refine z_istore_n (lv' := [(0, _), (1, _), (2, _), (3, _)]) (hO.ok (Nat.le_of_ble_eq_true rfl) (Nat.le_of_ble_eq_true rfl)) d_Lw_law_17 (by decide) rfl ?_
    exact law_loop (hO.ok (Nat.le_of_ble_eq_true rfl) (Nat.le_of_ble_eq_true rfl)) (hsl 54 1432) (hln 54 1432) hL hret (L - 0) 0 _ rfl (Nat.zero_le _) ⟨(fun _ => 0), zP0, zP0, zP0, ((fun _ => 0), 0, 0, 0, 0, 0), (fun _ => (0, 0, fun _ => 0)), (fun _ => 0), false, upd (fun _ => 0) 0 0, (fun _ => 0), (fun _ => 0), (fun _ => 0), 0, 0, 0, 0, 0, false, (fun _ => 0), (fun _ => 0), (fun _ => 0), rfl, zRo_0, zPi_0, zRg_0, (fun h => absurd h (by decide)), Nat.zero_le _, (fun i hi => absurd hi (Nat.not_lt_zero i)), (fun k hk => Nat.zero_le _)⟩
  subst hJe
  exact hst s.heap [] _ hP hD va_S.rf hl
