/-! ===== making objects: the same judgement, with room for new cells ===== -/
theorem zL.fin {pre wc wc' : va_W} : zL (pre ++ wc) wc wc' (pre ++ wc') :=
  ⟨List.range' pre.length wc.length, List.range' 0 pre.length, List.range (pre ++ wc').length, pre, zseg (p := pre) (x := wc) (q := []) (by rw [List.append_nil]) rfl rfl, zseg (p := []) (x := pre) (q := wc) rfl rfl rfl, znd_of List.nodup_range', (fun i h1 h2 => by
    have a := List.mem_range'_1.mp h1
    have b := List.mem_range'_1.mp h2
    omega), znd_of List.nodup_range', zrange_map _, znd_range _⟩
theorem zL.beg {post wc wc' : va_W} : zL (wc ++ post) wc wc' (wc' ++ post) :=
  ⟨List.range' 0 wc.length, List.range' wc.length post.length, List.range' post.length wc'.length ++ List.range' 0 post.length, post, zseg (p := []) (x := wc) (q := post) rfl rfl rfl, zseg (p := wc) (x := post) (q := []) (by rw [List.append_nil]) rfl rfl, znd_of List.nodup_range', (fun i h1 h2 => by
    have a := List.mem_range'_1.mp h1
    have b := List.mem_range'_1.mp h2
    omega), znd_of List.nodup_range', by
    rw [List.map_append, List.map_append]
    exact zap (zseg (p := post) (x := wc') (q := []) (by rw [List.append_nil]) rfl rfl) (zseg (p := []) (x := post) (q := wc') rfl rfl rfl), znd_of (znd2 (Or.inr (by omega)))⟩
def zrA (d mc ms : Nat) : Room := { frames := d, cells := mc, slots := ms, locals := 40 * d }
def zSO : String := "SixFellows$Sheet"
def zOA (g : Nat → Nat → Nat) (nm : String) (J : Nat → Nat → va_W → Nat → zLV → List Value → Prop) (cc : ByteArray) (nL : Nat) (own : String) (R : Room) : Prop :=
  ∃ (p : Program) (l : Launch) (e : Env) (s : State) (m : MethodId) (args : Array Value) (below : List Frame) (meth : Method) (c : Code) (D : va_G) (A : Nat → Prop) (Q : State → Prop),
    J = (fun cells slots => zJ p l e R s m args below meth c D A nL cells slots Q) ∧ p.tables.exec = Jvm.exec ∧ c.code = cc ∧ c.maxLocals = nL ∧ s.vm.findClass own = some m.cls ∧ (∀ w ∈ zT, w.before args s = true) ∧ meth.locks = false ∧ va_K D zCl (ztys g) s ∧ zZ g A s s.heap ∧ (∀ q : Nat, s.heap.size ≤ q → A q) ∧ meth.name = nm ∧ va_AO zSO s
def zPA (g : Nat → Nat → Nat) (D : va_G) (av : List Value) (w : va_W) (sz : Nat) : Array Value → State → Prop := fun a U => zPc g D av w sz a U ∧ va_AO zSO U
theorem zPA.blind {g : Nat → Nat → Nat} {D : va_G} {av : List Value} {w : va_W} {sz : Nat} : FrameBlind (zPA g D av w sz) := fun a U f mk q =>
  ⟨zPc.blind a U f mk q.1, va_AO.moved (u := U) (U := U.calling f mk a) (Vm.Alike.refl U.vm) q.2⟩
def zQA (D : va_G) (a0 : Nat) (W' : (Nat → Nat) → va_W) (A : Nat → Prop) : Array Value → State → Outcome → State → Prop := fun _ st oc t => oc = .returned none ∧ ∃ b : Nat → Nat, b 0 = a0 ∧ va_P D zCl (W' b) t.heap ∧ va_D A (W' b) ∧ va_F A st t
/-- A CONSTRUCTOR'S CONTRACT: it makes mc cells of ms slots; the world is W' at some addresses -/
def zMA (g : Nat → Nat → Nat) (y : MethodName) (cc : ByteArray) (nL d mc ms a0 : Nat) (w : va_W) (W' : (Nat → Nat) → va_W) : Prop :=
  ∀ (l : Launch) (D : va_G) (sz : Nat), Met l y (zws y cc nL none) (zrA d mc ms) (zPA g D [.ref a0] w sz) (zQA D a0 W' (va_A w sz)) mc ms (va_A w sz)
theorem zMA.of {g : Nat → Nat → Nat} {y : MethodName} {cc : ByteArray} {nL d mc ms a0 : Nat} {w : va_W} {W' : (Nat → Nat) → va_W} (hy : plainName y.cls = true) (hnm : y.name = "<init>") (hsl : 1 ≤ nL)
    (body : ∀ J, zOA g "<init>" J cc nL y.cls (zrA d mc ms) → (∀ b : Nat → Nat, b 0 = a0 → ∀ pc pc' lv, zd cc pc .return_ 1 pc' → J mc ms (W' b) pc lv []) → J 0 0 w 0 [(0, .ref a0)] []) : zMA g y cc nL d mc ms a0 w W' := by
  intro l D sz
  refine Met.ofW (cc := cc) (maxL := nL) (ret := none) hy rfl ?_
  intro p e s m args below meth c s₁ B hml hv
  obtain ⟨⟨rfl, hsz, hP, hK, hD0, hZ⟩, hAO⟩ := hv
  have hts := atoms_spec (ws := zws y cc nL none) B.pre
  have hown : s.vm.findClass y.cls = some m.cls := findClass_of_methodNamed B.named
  have hin : meth.name = "<init>" := (name_of_methodNamed B.named B.method).1.trans hnm
  subst hsz
  have hD := hD0.self (sz := s.heap.size)
  have hl := lv_entry ([.ref a0] : List Value) (n := nL) hsl
  rw [lg_entry_eq]
  refine body (fun cells slots => zJ p l e (zrA d mc ms) s m _ below meth c D (va_A w s.heap.size) nL cells slots _) ⟨p, l, e, s, m, _, below, meth, c, D, _, _, rfl, B.exec, B.bytes, hml, hown, fun w hw => hts w (List.mem_cons_of_mem _ hw), B.notSynchronized, hK, hZ, fun q h => Or.inr h, hin, hAO⟩ ?_ s.heap [] _ hP hD va_S.rf hl
  intro b hb pc pc' lv hd H locs ls hP hD hS hl
  exact W.vret B.exec B.bytes B.returns (fun t ht hW => ⟨rfl, b, hb, by rw [ht]; exact hP, hD, hS.F ht⟩) hS.2.2 hd.1 B.notSynchronized
section zMake
variable {g : Nat → Nat → Nat} {nm : String} {J : Nat → Nat → va_W → Nat → zLV → List Value → Prop} {cc : ByteArray} {nL : Nat} {own : String} {R : Room} {w w' : va_W} {pc pc' : Nat} {lv : zLV} {st : List Value} {cn sn : Nat}
theorem zOA.ok (h : zOA g nm J cc nL own R) (hc : cn ≤ R.cells) (hs : sn ≤ R.slots) : zOK g (J cn sn) cc nL own R := by
  obtain ⟨p, l, e, s, m, args, below, meth, c, D, A, Q, rfl, hx, hb, hml, hown, hts, hlk, hK, hZ, hA, hnm, hAO⟩ := h
  exact ⟨p, l, e, s, m, args, below, meth, c, D, A, cn, sn, Q, rfl, hx, hb, hml, hown, hts, hlk, hK, hZ, hA, hc, hs⟩
theorem z_widen {k n : Nat} (h : zOA g nm J cc nL own R) (h1 : cn ≤ k) (h2 : sn ≤ n) (kk : J k n w pc lv st) : J cn sn w pc lv st := by
  obtain ⟨p, l, e, s, m, args, below, meth, c, D, A, Q, rfl, hx, hb, hml, hown, hts, hlk, hK, hZ, hA, hnm, hAO⟩ := h
  intro H locs ls hP hD hS hl
  exact W.widen h1 h2 (kk H locs ls hP hD hS hl)
theorem zcls_arr {D : va_G} {s : State} {cA : ClassId} {k : Nat} {q : ClassId × FieldType} (hK : va_K D zCl (ztys g ++ [(cA, q.2)]) s) (hk : (ztys g)[k]? = some q) (he : ∀ C, q.2 ≠ .object C) : cA = q.1 := by
  have h1 := (hK.2 k q (by rw [List.getElem?_append_left (List.getElem?_eq_some_iff.mp hk).1]; exact hk)).2
  have h2 := (hK.2 3 (cA, q.2) rfl).2
  obtain ⟨c, ty⟩ := q
  cases ty with
  | object C => exact absurd rfl (he C)
  | _ => exact Option.some.inj (h2.symm.trans h1)
theorem hA_int : Cond.arrayClass (newarray.typeOf .int) ∈ zT := zin 145 (by decide +kernel) rfl
theorem hA_long : Cond.arrayClass (newarray.typeOf .long) ∈ zT := zin 192 (by decide +kernel) rfl
theorem hO_i : Cond.instanceMethod Lib.objectInit ∈ zT := zin 84 (by decide +kernel) rfl
theorem hO_c : Cond.code Lib.objectInit ⟨#[0xb1]⟩ 1 none ∈ zT := zin 85 (by decide +kernel) rfl
theorem z_mki {n : Nat} (h : zOA g nm J cc nL own R) (hc : cn + 1 ≤ R.cells) (hs : sn + n ≤ R.slots) (hd : zd cc pc (.newarray .int) 2 pc') (hn : n < 100000) (k : ∀ q : Nat, J (cn + 1) (sn + n) (w ++ [(q, .inl (g 0 0, n, .inl (fun _ => 0)))]) pc' lv (.ref q :: st)) : J cn sn w pc lv (.int (nI n) :: st) := by
  obtain ⟨p, l, e, s, m, args, below, meth, c, D, A, Q, rfl, hx, hb, hml, hown, hts, hlk, hK, hZ, hA, hnm, hAO⟩ := h
  obtain ⟨hd, rfl⟩ := hd
  intro H locs ls hP hD hS hl
  refine va_newa (atype := .int) (ty := .int) (a0 := (n, .inl (fun _ => 0))) hx hb (hts _ hA_int) rfl hK hP hD hS hA (fun cA => rfl) (nI_pos (by omega)) (nI_clamp (by omega)) (by show n * 4 ≤ 536870912; omega) hc hs hd (fun q cA H1 hK1 hP1 hD1 hS1 => ?_)
  obtain rfl : cA = g 0 0 := zcls_arr (q := (g 0 0, .int)) hK1 (k := 0) rfl (fun C h => by cases h)
  exact k q H1 locs ls hP1 hD1 hS1 hl
theorem z_mkl {n : Nat} (h : zOA g nm J cc nL own R) (hc : cn + 1 ≤ R.cells) (hs : sn + n ≤ R.slots) (hd : zd cc pc (.newarray .long) 2 pc') (hn : n < 100000) (k : ∀ q : Nat, J (cn + 1) (sn + n) (w ++ [(q, .inl (g 0 1, n, .inr (.inl (fun _ => 0))))]) pc' lv (.ref q :: st)) : J cn sn w pc lv (.int (nI n) :: st) := by
  obtain ⟨p, l, e, s, m, args, below, meth, c, D, A, Q, rfl, hx, hb, hml, hown, hts, hlk, hK, hZ, hA, hnm, hAO⟩ := h
  obtain ⟨hd, rfl⟩ := hd
  intro H locs ls hP hD hS hl
  refine va_newa (atype := .long) (ty := .long) (a0 := (n, .inr (.inl (fun _ => 0)))) hx hb (hts _ hA_long) rfl hK hP hD hS hA (fun cA => rfl) (nI_pos (by omega)) (nI_clamp (by omega)) (by show n * 8 ≤ 536870912; omega) hc hs hd (fun q cA H1 hK1 hP1 hD1 hS1 => ?_)
  obtain rfl : cA = g 0 1 := zcls_arr (q := (g 0 1, .long)) hK1 (k := 1) rfl (fun C h => by cases h)
  exact k q H1 locs ls hP1 hD1 hS1 hl
theorem z_mkq {n idx : Nat} (h : zOA g nm J cc nL own R) (hc : cn + 1 ≤ R.cells) (hs : sn + n ≤ R.slots) (hd : zd cc pc (.anewarray idx) 3 pc') (hlk : Cond.classLink own idx zSO ∈ zT) (hn : n < 100000) (k : ∀ q : Nat, J (cn + 1) (sn + n) (w ++ [(q, .inl (g 0 2, n, .inr (.inr (.inr (.inr (fun _ => none))))))]) pc' lv (.ref q :: st)) : J cn sn w pc lv (.int (nI n) :: st) := by
  obtain ⟨p, l, e, s, m, args, below, meth, c, D, A, Q, rfl, hx, hb, hml, hown, hts, hlk2, hK, hZ, hA, hnm, hAO⟩ := h
  obtain ⟨hd, rfl⟩ := hd
  intro H locs ls hP hD hS hl
  refine va_newq hx hb hown (hts _ hlk) hAO hK hP hD hS hA (nI_pos (by omega)) (nI_clamp (by omega)) (by omega) hc hs hd (fun q cA H1 hK1 hP1 hD1 hS1 => ?_)
  obtain rfl : cA = g 0 2 := by
    have h1 := (hK1.2 2 (g 0 2, .object "SixFellows$Sheet") rfl).2
    have h2 := (hK1.2 3 (cA, .object zSO) rfl).2
    obtain ⟨k1, c1, a1, a2, a3, a4⟩ := h1
    obtain ⟨k2, c2, b1, b2, b3, b4⟩ := h2
    exact Option.some.inj (b4.symm.trans a4)
  exact k q H1 locs ls hP1 hD1 hS1 hl
theorem z_astq {J' : va_W → Nat → zLV → List Value → Prop} {a n i v : Nat} {vs : List Value} {f : Nat → Option Nat} (h : zOK g J' cc nL own R) (hd : zd cc pc .aastore 1 pc') (q qk : Nat) (he : w[q]? = some (a, .inl (g 0 2, n, .inr (.inr (.inr (.inr f)))))) (hv : w[qk]? = some (v, .inr (1, vs))) (hi : i < n) (hn : n < 2 ^ 31) (hw : w.set q (a, .inl (g 0 2, n, .inr (.inr (.inr (.inr (va_up f i (some v))))))) = w') (k : J' w' pc' lv st) : J' w pc lv (.ref v :: .int (nI i) :: .ref a :: st) := by
  obtain ⟨p, l, e, s, m, args, below, meth, c, D, A, cells, slots, Q, rfl, hx, hb, hml, hown, hts, hlk, hK, hZ, hA, hcc, hss⟩ := h
  obtain ⟨hd, rfl⟩ := hd
  intro H locs ls hP hD hS hl
  refine va_astq (r := ("SixFellows$Sheet", T_Sh, 3)) hx hb hK hP hD hS q 2 qk 1 he rfl hv rfl (vp_in_nI hi hn) hd (fun H1 locs1 hP1 hD1 hS1 => ?_)
  rw [nI_clamp (by omega), hw] at hP1 hD1
  exact k H1 locs1 ls hP1 hD1 hS1 hl
theorem z_arrq {J' : va_W → Nat → zLV → List Value → Prop} {a n : Nat} {c : ClassId} {f f' : Nat → Option Nat} (h : zOK g J' cc nL own R) (q : Nat) (he : w[q]? = some (a, .inl (c, n, .inr (.inr (.inr (.inr f)))))) (hf : ∀ j, j < n → f j = f' j) (hw : w.set q (a, .inl (c, n, .inr (.inr (.inr (.inr f'))))) = w') (k : J' w' pc lv st) : J' w pc lv st := by
  refine z_cell h he (fun D H hq => ?_) hw k
  have e1 : H[a]? = some (arrV c n (fun j => va_rf (f j))) := hq
  show H[a]? = some (arrV c n (fun j => va_rf (f' j)))
  rw [e1, arrV_ext (f' := fun j => va_rf (f' j)) (fun j hj => by rw [hf j hj])]
theorem z_oi {J' : va_W → Nat → zLV → List Value → Prop} {a idx : Nat} (h : zOK g J' cc nL own R) (hd : zd cc pc (.invokespecial idx) 3 pc') (hl : Cond.methodLink own idx Lib.objectInit ∈ zT) (hf : 1 ≤ R.frames) (hloc : 20 ≤ R.locals) (hr : (st.map fun v => v.category).sum ≤ 8) (k : J' w pc' lv st) : J' w pc lv (.ref a :: st) := by
  obtain ⟨p, l, e, s, m, args, below, meth, c, D, A, cells, slots, Q, rfl, hx, hb, hml, hown, hts, hlk, hK, hZ, hA, hcc, hss⟩ := h
  obtain ⟨hd, rfl⟩ := hd
  intro H locs ls hP hD hS hl2
  have hrm : 2 * (F0 m pc ls (.ref a :: st)).monitorRoom + (st.map fun v => v.category).sum ≤ 8 := lv_room hr
  exact W.objInit hx hb hown (hts _ hl) (hts _ hO_i) (hts _ hO_c) rfl (by rw [hml]; exact hl2.1) rfl hd hf (by omega) (k H locs ls hP hD hS hl2)
theorem z_new {ci N idx : Nat} {C : String} {T : u_T} {ty : Nat → FieldType} {fs : List Value} (h : zOA g nm J cc nL own R) (hc : cn + 1 ≤ R.cells) (hs : sn + N ≤ R.slots) (hd : zd cc pc (.new idx) 3 pc') (hcl : zCls ci C T N ty) (hlk : Cond.classLink own idx C ∈ zT) (hin : Cond.instantiable C N ∈ zT) (hini : Cond.initialized C ∈ zT) (hfs : ∀ j, j < N → defaultValue (ty j) = vp_V fs j) (k : ∀ q : Nat, J (cn + 1) (sn + N) (w ++ [(q, .inr (ci, fs))]) pc' lv (.ref q :: st)) : J cn sn w pc lv st := by
  obtain ⟨p, l, e, s, m, args, below, meth, c, D, A, Q, rfl, hx, hb, hml, hown, hts, hlk2, hK, hZ, hA, hnm, hAO⟩ := h
  obtain ⟨hd, rfl⟩ := hd
  intro H locs ls hP hD hS hl
  exact va_new (ci := ci) (fs := fs) (C := C) (T := T) (N := N) hx hb hts hcl.2.1 ty hcl.2.2.1 hown (hts _ hlk) (hts _ hin) (hts _ hini) hK hP hD hS hA hcl.1 hfs hc hs hd (fun q H1 hP1 hD1 hS1 => k q H1 locs ls hP1 hD1 hS1 hl)
theorem z_putF {ci N idx k0 a : Nat} {C : String} {T : u_T} {ty : Nat → FieldType} {fs : List Value} {v : Value} (h : zOA g "<init>" J cc nL own R) (hd : zd cc pc (.putfield idx) 3 pc') (hc : zCls ci C T N ty) (hf : zFl own idx T k0) (q : Nat) (he : w[q]? = some (a, .inr (ci, fs))) (hfin : (T k0).2.2.2 = true) (hdecl : (T k0).1 = own) (hnar : narrow (ty k0) v = v) (hfit : fits (ty k0) v = true) (hk0 : k0 < N) (hlen : k0 < fs.length) (hw : w.set q (a, .inr (ci, fs.set k0 v)) = w') (k : J cn sn w' pc' lv st) : J cn sn w pc lv (v :: .ref a :: st) := by
  obtain ⟨p, l, e, s, m, args, below, meth, c, D, A, Q, rfl, hx, hb, hml, hown, hts, hlk, hK, hZ, hA, hnm, hAO⟩ := h
  obtain ⟨hd, rfl⟩ := hd
  intro H locs ls hP hD hS hl
  exact va_putF (ci := ci) (C := C) (T := T) (N := N) hx hb hts hc.2.1 ty hc.2.2.1 hc.2.2.2 hown hK hP hD hS q he hc.1 k0 hk0 (hts _ hf) (fun _ h9 => h9) hfin hnm hdecl (hc.2.2.1 k0 hk0) hnar hfit hlen hd (fun H locs hP hD hS => k H locs ls (by rw [← hw]; exact hP) (by rw [← hw]; exact hD) hS hl)
theorem z_afterI {p : Program} {l : Launch} {e : Env} {s : State} {m : MethodId} {args : Array Value} {below : List Frame} {meth : Method} {c : Code} {D : va_G} {A : Nat → Prop} {cells slots mc ms a0 : Nat} {Q : State → Prop} {H : Heap} {locs : List Loc} {ls : Array Slot} {a : Array Value} {wc pre : va_W} {W' : (Nat → Nat) → va_W} {rest : List Value}
    (hr : va_Run p l e R s m args below meth c H locs cells slots mc ms (F0 m pc ls st) rest (zQA D a0 W' (va_A wc H.size) a) (va_A wc H.size)) (hP : va_P D zCl (pre ++ wc) H) (hD : va_D A (pre ++ wc)) (hS : va_S A s.heap H locs) (hA : ∀ q : Nat, s.heap.size ≤ q → A q)
    (k : ∀ b : Nat → Nat, b 0 = a0 → ∀ (H1 : Heap) (locs1 : List Loc), va_P D zCl (pre ++ W' b) H1 → va_D A (pre ++ W' b) → va_S A s.heap H1 locs1 → W p l e R s m args below meth c H1 locs1 (cells + mc) (slots + ms) Q (F0 m (pc + 3) ls rest)) : W p l e R s m args below meth c H locs cells slots Q (F0 m pc ls st) := by
  intro T hT X
  obtain ⟨v, st₀, t, T', L, h0, X', hLq, e1, e2, ⟨hv, b, hb, hP1, hD1, hz, hk⟩, stp⟩ := hr T hT X
  obtain ⟨isC, isR, perm, wr, hC, hR, hn, hdis, hnC, hp, hnp⟩ := (zL.fin : zL (pre ++ wc) wc (W' b) (pre ++ W' b))
  have hF := va_free hD hS hA isC hC
  have hv := Outcome.returned.inj hv
  subst hv
  rw [h0] at hz hk
  have hk1 : ∀ q : Nat, q < H.size → ¬ va_A wc H.size q → T'.heap[q]? = H[q]? := fun q h1 h2 => by rw [e1]; exact hk q h1 h2
  obtain ⟨hPj, hDj⟩ := va_join hP hD isC isR hC hR hn hdis hk1 hF (by rw [e1]; exact hP1) hD1
  obtain ⟨t2, a1, b1⟩ := k b hb T'.heap (locs ++ L) (hPj.sub perm (zpick hp)) (hDj.sub perm hnp hp)
    ⟨Nat.le_trans hS.1 (by rw [e1]; exact hz), fun q h1 h2 => by rw [e1, hk q (Nat.lt_of_lt_of_le h1 hS.1) (fun z => h2 (hF q z))]; exact hS.2.1 q h1 h2, fun q hq => by
      rcases List.mem_append.mp hq with h | h
      · exact hS.2.2 q h
      · exact hF _ (hLq q h)⟩ T' rfl X'
  exact ⟨t2, stp t2 a1, b1⟩
theorem z_roomyA {d mc ms maxL : Nat} (hm : maxL ≤ 21) (hd : d + 1 ≤ R.frames ∧ 40 * d + 40 ≤ R.locals) : (zrA d mc ms).frames + 1 ≤ R.frames ∧ 8 + (maxL + 11) + (zrA d mc ms).locals ≤ R.locals := ⟨hd.1, by show 8 + (maxL + 11) + 40 * d ≤ R.locals; omega⟩
/-- a constructor is called: by a link of the caller's own, or of a nest mate's -/
def zCI (own : String) (idx : Nat) (y : MethodName) (bytes : ByteArray) (maxL : Nat) : Prop := Cond.methodLink own idx y ∈ zT ∧ Cond.instanceMethod y ∈ zT ∧ Cond.initialized y.cls ∈ zT ∧ Cond.code y bytes maxL none ∈ zT ∧ (y.cls ≠ "java/lang/invoke/MethodHandle" ∧ y.cls ≠ "java/lang/invoke/VarHandle" ∧ (parseMethodDescriptor y.desc).map (fun d => d.parameters.length) = some 0) ∧ maxL ≤ 21 ∧ y.name = "<init>"
def zCJ (own : String) (idx : Nat) (y : MethodName) (bytes : ByteArray) (maxL : Nat) : Prop := (∃ h, (own, idx, y, h) ∈ zNl) ∧ Cond.instanceMethod y ∈ zT ∧ Cond.initialized y.cls ∈ zT ∧ Cond.code y bytes maxL none ∈ zT ∧ (y.cls ≠ "java/lang/invoke/MethodHandle" ∧ y.cls ≠ "java/lang/invoke/VarHandle" ∧ (parseMethodDescriptor y.desc).map (fun d => d.parameters.length) = some 0) ∧ maxL ≤ 21 ∧ y.name = "<init>"
theorem z_cI {y : MethodName} {bytes : ByteArray} {maxL idx d mc ms a0 : Nat} {wc pre : va_W} {W' : (Nat → Nat) → va_W} {rest : List Value} (h : zOA g nm J cc nL own R) (hM : zMA g y bytes maxL d mc ms a0 wc W') (hc : zCI own idx y bytes maxL) (hd : zd cc pc (.invokespecial idx) 3 pc') (hr : (rest.map fun v => v.category).sum ≤ 8) (hdp : d + 1 ≤ R.frames ∧ 40 * d + 40 ≤ R.locals) (hcs : cn + mc ≤ R.cells ∧ sn + ms ≤ R.slots) (k : ∀ b : Nat → Nat, b 0 = a0 → J (cn + mc) (sn + ms) (pre ++ W' b) pc' lv rest) : J cn sn (pre ++ wc) pc lv (.ref a0 :: rest) := by
  obtain ⟨p, l, e, s, m, args, below, meth, c, D, A, Q, rfl, hx, hb, hml, hown, hts, hlk, hK, hZ, hA, hnm, hAO⟩ := h
  obtain ⟨hd, rfl⟩ := hd
  obtain ⟨c1, c2, c3, c4, c5, c6, c7⟩ := hc
  intro H locs ls hP hD hS hl
  refine z_afterI (va_runI (As := []) (rest := rest) (own := own) (Ts := zT) (n := 0) ⟨hx, hb, hml, hown, hts⟩ (hM l D H.size) ⟨callB_of 0 hts (zgd c4) rfl rfl rfl (hts _ c3) (hts _ c1) c5 (z_roomyA c6 hdp), c7, hts _ c2⟩ ⟨zPA.blind, fun U hU hW => ⟨z_pre (p := p) (av := [.ref a0]) (zL.fin : zL (pre ++ wc) wc wc (pre ++ wc)) hP hD hS hA hK hZ U hU hW, va_AO.moved hW.alike hAO⟩⟩ rfl rfl hl.1 rfl (lv_room hr) hd hcs) hP hD hS hA (fun b hb H1 locs1 a1 a2 a3 => k b hb H1 locs1 ls a1 a2 a3 hl)
theorem z_cJ {y : MethodName} {bytes : ByteArray} {maxL idx d mc ms a0 : Nat} {wc pre : va_W} {W' : (Nat → Nat) → va_W} {rest : List Value} (h : zOA g nm J cc nL own R) (hM : zMA g y bytes maxL d mc ms a0 wc W') (hc : zCJ own idx y bytes maxL) (hd : zd cc pc (.invokespecial idx) 3 pc') (hr : (rest.map fun v => v.category).sum ≤ 8) (hdp : d + 1 ≤ R.frames ∧ 40 * d + 40 ≤ R.locals) (hcs : cn + mc ≤ R.cells ∧ sn + ms ≤ R.slots) (k : ∀ b : Nat → Nat, b 0 = a0 → J (cn + mc) (sn + ms) (pre ++ W' b) pc' lv rest) : J cn sn (pre ++ wc) pc lv (.ref a0 :: rest) := by
  obtain ⟨p, l, e, s, m, args, below, meth, c, D, A, Q, rfl, hx, hb, hml, hown, hts, hlk, hK, hZ, hA, hnm, hAO⟩ := h
  obtain ⟨hd, rfl⟩ := hd
  obtain ⟨⟨host, c1⟩, c2, c3, c4, c5, c6, c7⟩ := hc
  intro H locs ls hP hD hS hl
  refine z_afterI (va_runIN (As := []) (rest := rest) (own := own) (host := host) (Ts := zT) (n := 0) ⟨hx, hb, hml, hown, hts⟩ (hM l D H.size) ⟨va_cnB 0 hts (zgd c4) rfl rfl rfl (hZ.1 _ c1) (hts _ c3) c5 (z_roomyA c6 hdp), c7, hts _ c2⟩ ⟨zPA.blind, fun U hU hW => ⟨z_pre (p := p) (av := [.ref a0]) (zL.fin : zL (pre ++ wc) wc wc (pre ++ wc)) hP hD hS hA hK hZ U hU hW, va_AO.moved hW.alike hAO⟩⟩ rfl rfl hl.1 rfl (lv_room hr) hd hcs) hP hD hS hA (fun b hb H1 locs1 a1 a2 a3 => k b hb H1 locs1 ls a1 a2 a3 hl)
end zMake
