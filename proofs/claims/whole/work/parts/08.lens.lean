/-! ===== parts of worlds ===== -/
theorem zL.mk {w wc wc' w' : va_W} (isC isR perm : List Nat) (hC : isC.map (fun i => w[i]?) = wc.map some) (hR : isR.map (fun i => w[i]?) = (isR.filterMap (fun i => w[i]?)).map some) (hn : va_nd isR = true) (hd : ∀ i ∈ isR, i ∉ isC) (hnC : va_nd isC = true) (hp : perm.map (fun i => ((isR.filterMap (fun i => w[i]?)) ++ wc')[i]?) = w'.map some) (hnp : va_nd perm = true) : zL w wc wc' w' := ⟨isC, isR, perm, _, hC, hR, hn, hd, hnC, hp, hnp⟩
theorem arrV_ext {c : ClassId} {n : Nat} {f f' : Nat → Value} (h : ∀ j, j < n → f j = f' j) : arrV c n f = arrV c n f' := by
  unfold arrV
  congr 1
  apply Array.ext
  · simp
  · intro i h1 h2
    simp only [Array.getElem_ofFn]
    exact h i (by simpa using h1)
section zArr
variable {g : Nat → Nat → Nat} {J : va_W → Nat → zLV → List Value → Prop} {cc : ByteArray} {nL : Nat} {own : String} {R : Room} {w w' : va_W} {pc : Nat} {lv : zLV} {st : List Value}
theorem z_cell {a q : Nat} {e e' : va_E} (h : zOK g J cc nL own R) (he : w[q]? = some (a, e)) (hc : ∀ D H, va_at D zCl (a, e) H → va_at D zCl (a, e') H) (hw : w.set q (a, e') = w') (k : J w' pc lv st) : J w pc lv st := by
  obtain ⟨p, l, e0, s, m, args, below, meth, c, D, A, cells, slots, Q, rfl, hx, hb, hml, hown, hts, hlk, hK, hZ, hA, hcc, hss⟩ := h
  intro H locs ls hP hD hS hl
  subst hw
  exact k H locs ls (hP.set hD he (hc D H (hP q _ he)) (fun _ _ => rfl)) (hD.set he) hS hl
theorem z_arri {a n : Nat} {c : ClassId} {f f' : Nat → Int32} (h : zOK g J cc nL own R) (q : Nat) (he : w[q]? = some (a, .inl (c, n, .inl f))) (hf : ∀ j, j < n → f j = f' j) (hw : w.set q (a, .inl (c, n, .inl f')) = w') (k : J w' pc lv st) : J w pc lv st := by
  refine z_cell h he (fun D H hq => ?_) hw k
  have e1 : H[a]? = some (arrV c n (fun j => .int (f j))) := hq
  show H[a]? = some (arrV c n (fun j => .int (f' j)))
  rw [e1, arrV_ext (f' := fun j => .int (f' j)) (fun j hj => by rw [hf j hj])]
theorem z_arrl {a n : Nat} {c : ClassId} {f f' : Nat → Int64} (h : zOK g J cc nL own R) (q : Nat) (he : w[q]? = some (a, .inl (c, n, .inr (.inl f)))) (hf : ∀ j, j < n → f j = f' j) (hw : w.set q (a, .inl (c, n, .inr (.inl f'))) = w') (k : J w' pc lv st) : J w pc lv st := by
  refine z_cell h he (fun D H hq => ?_) hw k
  have e1 : H[a]? = some (arrV c n (fun j => .long (f j))) := hq
  show H[a]? = some (arrV c n (fun j => .long (f' j)))
  rw [e1, arrV_ext (f' := fun j => .long (f' j)) (fun j hj => by rw [hf j hj])]
end zArr
theorem znd_of : ∀ {l : List Nat}, l.Nodup → va_nd l = true := by
  intro l
  induction l with
  | nil => intro _; rfl
  | cons a l ih =>
    intro hn
    have h2 := List.nodup_cons.mp hn
    simp only [va_nd, Bool.and_eq_true, decide_eq_true_eq]
    exact ⟨h2.1, ih h2.2⟩
theorem zseg {l p x q : va_W} {a n : Nat} (hl : l = p ++ (x ++ q)) (ha : p.length = a) (hn : x.length = n) : (List.range' a n).map (fun i => l[i]?) = x.map some := by
  subst hl
  subst ha
  subst hn
  apply List.ext_getElem?
  intro i
  simp only [List.getElem?_map]
  by_cases h : i < x.length
  · rw [List.getElem?_range' h, List.getElem?_eq_getElem h]
    simp only [Option.map_some, Nat.one_mul]
    rw [List.getElem?_append_right (Nat.le_add_right _ _), Nat.add_sub_cancel_left, List.getElem?_append_left h, List.getElem?_eq_getElem h]
  · rw [List.getElem?_eq_none (by simpa using h), List.getElem?_eq_none (by simpa using h)]
    rfl
theorem zap {α : Type} {a b c d : List α} (h1 : a = c) (h2 : b = d) : a ++ b = c ++ d := by rw [h1, h2]
theorem znd2 {a n b m : Nat} (h : a + n ≤ b ∨ b + m ≤ a) : (List.range' a n ++ List.range' b m).Nodup := by
  refine List.nodup_append.mpr ⟨List.nodup_range', List.nodup_range', ?_⟩
  intro x hx y hy e
  subst e
  have h1 := List.mem_range'_1.mp hx
  have h2 := List.mem_range'_1.mp hy
  omega
theorem zL.app {wc wc' : va_W} (u v : va_W) (h : wc.length = wc'.length) : zL (u ++ (wc ++ v)) wc wc' (u ++ (wc' ++ v)) := by
  refine ⟨List.range' u.length wc.length, List.range' 0 u.length ++ List.range' (u.length + wc.length) v.length, List.range' 0 u.length ++ (List.range' (u.length + v.length) wc.length ++ List.range' u.length v.length), u ++ v, zseg rfl rfl rfl, ?_, znd_of (znd2 (Or.inl (by omega))), ?_, znd_of List.nodup_range', ?_, ?_⟩
  · rw [List.map_append, List.map_append]
    exact zap (zseg (p := []) (x := u) (q := wc ++ v) rfl rfl rfl) (zseg (p := u ++ wc) (x := v) (q := []) (by simp) (by simp) rfl)
  · intro i hi hc
    have h1 := List.mem_range'_1.mp hc
    rcases List.mem_append.mp hi with h2 | h2
    · have := List.mem_range'_1.mp h2; omega
    · have := List.mem_range'_1.mp h2; omega
  · simp only [List.map_append]
    exact zap (zseg (p := []) (x := u) (q := v ++ wc') (by simp) rfl rfl) (zap (zseg (p := u ++ v) (x := wc') (q := []) (by simp) (by simp) h.symm) (zseg (p := u) (x := v) (q := wc') (by simp) rfl rfl))
  · refine znd_of (List.nodup_append.mpr ⟨List.nodup_range', znd2 (Or.inr (by omega)), ?_⟩)
    intro x hx y hy e
    subst e
    have h1 := List.mem_range'_1.mp hx
    rcases List.mem_append.mp hy with h2 | h2
    · have := List.mem_range'_1.mp h2; omega
    · have := List.mem_range'_1.mp h2; omega
theorem zL.swap {w w' x y x' y' : va_W} (hx : x.length = x'.length) (hy : y.length = y'.length) (h : zL w (x ++ y) (x' ++ y') w') : zL w (y ++ x) (y' ++ x') w' := by
  obtain ⟨isC, isR, perm, wr, h1, h2, h3, h4, h5, h6, h7⟩ := h
  have hlen : isC.length = x.length + y.length := by
    have e := congrArg List.length h1
    simpa using e
  have e1 : isC = isC.take x.length ++ isC.drop x.length := (List.take_append_drop _ _).symm
  have hm : (isC.take x.length).map (fun i => w[i]?) = x.map some ∧ (isC.drop x.length).map (fun i => w[i]?) = y.map some := by
    rw [e1, List.map_append, List.map_append] at h1
    exact List.append_inj h1 (by simp [hlen])
  have hnd : (isC.take x.length ++ isC.drop x.length).Nodup := by
    rw [← e1]
    clear h1 h2 h3 h4 h6 h7 hlen hm e1
    induction isC with
    | nil => exact List.nodup_nil
    | cons a l ih =>
      simp only [va_nd, Bool.and_eq_true, decide_eq_true_eq] at h5
      exact List.nodup_cons.mpr ⟨h5.1, ih h5.2⟩
  refine ⟨isC.drop x.length ++ isC.take x.length, isR, perm.map (fun i => if i < wr.length then i else if i < wr.length + x'.length then i + y'.length else i - x'.length), wr, ?_, h2, h3, ?_, ?_, ?_, ?_⟩
  · rw [List.map_append, List.map_append, hm.1, hm.2]
  · intro i hi hc
    refine h4 i hi ?_
    rw [e1]
    rcases List.mem_append.mp hc with q | q
    · exact List.mem_append_right _ q
    · exact List.mem_append_left _ q
  · refine znd_of ?_
    obtain ⟨n1, n2, n3⟩ := List.nodup_append.mp hnd
    exact List.nodup_append.mpr ⟨n2, n1, fun a ha b hb e => n3 b hb a ha e.symm⟩
  · rw [← h6, List.map_map]
    refine List.map_congr_left (fun i hi => ?_)
    simp only [Function.comp]
    by_cases c1 : i < wr.length
    · rw [if_pos c1, List.getElem?_append_left c1, List.getElem?_append_left c1]
    · rw [if_neg c1]
      by_cases c2 : i < wr.length + x'.length
      · rw [if_pos c2, List.getElem?_append_right (by omega), List.getElem?_append_right (by omega), List.getElem?_append_right (by omega), List.getElem?_append_left (by omega)]
        congr 1
        omega
      · rw [if_neg c2, List.getElem?_append_right (by omega : wr.length ≤ i), List.getElem?_append_right (by omega : x'.length ≤ i - wr.length)]
        have hb : i - wr.length - x'.length < y'.length := by
          have hm6 : (fun i => (wr ++ (x' ++ y'))[i]?) i ∈ perm.map (fun i => (wr ++ (x' ++ y'))[i]?) := List.mem_map_of_mem hi
          rw [h6] at hm6
          obtain ⟨z, -, hz⟩ := List.mem_map.mp hm6
          have hlt := (List.getElem?_eq_some_iff.mp hz.symm).1
          simp only [List.length_append] at hlt
          omega
        rw [List.getElem?_append_right (by omega), List.getElem?_append_left (by omega)]
        congr 1
        omega
  · refine znd_of ?_
    have hn7 : perm.Nodup := by
      clear h1 h2 h3 h4 h5 h6 hlen hm e1 hnd
      induction perm with
      | nil => exact List.nodup_nil
      | cons a l ih =>
        simp only [va_nd, Bool.and_eq_true, decide_eq_true_eq] at h7
        exact List.nodup_cons.mpr ⟨h7.1, ih h7.2⟩
    have hlt : ∀ i ∈ perm, i < wr.length + (x'.length + y'.length) := by
      intro i hi
      have hm6 : (fun i => (wr ++ (x' ++ y'))[i]?) i ∈ perm.map (fun i => (wr ++ (x' ++ y'))[i]?) := List.mem_map_of_mem hi
      rw [h6] at hm6
      obtain ⟨z, -, hz⟩ := List.mem_map.mp hm6
      have hlt := (List.getElem?_eq_some_iff.mp hz.symm).1
      simpa using hlt
    clear h1 h2 h3 h4 h5 h6 h7 hlen hm e1 hnd
    induction perm with
    | nil => exact List.nodup_nil
    | cons a l ih =>
      obtain ⟨n1, n2⟩ := List.nodup_cons.mp hn7
      refine List.nodup_cons.mpr ⟨?_, ih n2 (fun i hi => hlt i (List.mem_cons_of_mem _ hi))⟩
      intro hin
      obtain ⟨b, hb, eb⟩ := List.mem_map.mp hin
      have ha := hlt a List.mem_cons_self
      have hb2 := hlt b (List.mem_cons_of_mem _ hb)
      have e : b = a := by
        by_cases c1 : a < wr.length <;> by_cases c2 : b < wr.length <;> by_cases c3 : a < wr.length + x'.length <;> by_cases c4 : b < wr.length + x'.length <;> simp only [c1, c2, c3, c4, if_true, if_false] at eb <;> omega
      exact n1 (e ▸ hb)
/-- two parts with others between them -/
theorem zL.app2 {p t p' t' : va_W} (u m v : va_W) (hp : p.length = p'.length) (ht : t.length = t'.length) : zL (u ++ (p ++ (m ++ (t ++ v)))) (p ++ t) (p' ++ t') (u ++ (p' ++ (m ++ (t' ++ v)))) := by
  refine ⟨List.range' u.length p.length ++ List.range' (u.length + p.length + m.length) t.length, List.range' 0 u.length ++ (List.range' (u.length + p.length) m.length ++ List.range' (u.length + p.length + m.length + t.length) v.length),
    List.range' 0 u.length ++ (List.range' (u.length + m.length + v.length) p.length ++ (List.range' u.length m.length ++ (List.range' (u.length + m.length + v.length + p.length) t.length ++ List.range' (u.length + m.length) v.length))), u ++ (m ++ v), ?_, ?_, ?_, ?_, znd_of (znd2 (Or.inl (by omega))), ?_, ?_⟩
  · simp only [List.map_append]
    exact zap (zseg (p := u) (x := p) (q := m ++ (t ++ v)) rfl rfl rfl) (zseg (p := u ++ (p ++ m)) (x := t) (q := v) (by simp) (by simp; omega) rfl)
  · simp only [List.map_append]
    exact zap (zseg (p := []) (x := u) (q := p ++ (m ++ (t ++ v))) rfl rfl rfl) (zap (zseg (p := u ++ p) (x := m) (q := t ++ v) (by simp) (by simp) rfl) (zseg (p := u ++ (p ++ (m ++ t))) (x := v) (q := []) (by simp) (by simp; omega) rfl))
  · refine znd_of (List.nodup_append.mpr ⟨List.nodup_range', znd2 (Or.inl (by omega)), ?_⟩)
    intro x hx y hy e
    subst e
    have h1 := List.mem_range'_1.mp hx
    rcases List.mem_append.mp hy with h2 | h2 <;> (have := List.mem_range'_1.mp h2; omega)
  · intro i hi hc
    rcases List.mem_append.mp hc with h1 | h1 <;> rcases List.mem_append.mp hi with h2 | h2
    · have := List.mem_range'_1.mp h1; have := List.mem_range'_1.mp h2; omega
    · rcases List.mem_append.mp h2 with h3 | h3 <;> (have := List.mem_range'_1.mp h1; have := List.mem_range'_1.mp h3; omega)
    · have := List.mem_range'_1.mp h1; have := List.mem_range'_1.mp h2; omega
    · rcases List.mem_append.mp h2 with h3 | h3 <;> (have := List.mem_range'_1.mp h1; have := List.mem_range'_1.mp h3; omega)
  · simp only [List.map_append]
    exact zap (zseg (p := []) (x := u) (q := m ++ (v ++ (p' ++ t'))) (by simp) rfl rfl) (zap (zseg (p := u ++ (m ++ v)) (x := p') (q := t') (by simp) (by simp; omega) hp.symm) (zap (zseg (p := u) (x := m) (q := v ++ (p' ++ t')) (by simp) rfl rfl) (zap (zseg (p := u ++ (m ++ (v ++ p'))) (x := t') (q := []) (by simp) (by simp; omega) ht.symm) (zseg (p := u ++ m) (x := v) (q := p' ++ t') (by simp) (by simp) rfl))))
  · have nd : ∀ {a n : Nat} {l : List Nat}, l.Nodup → (∀ y ∈ l, y < a ∨ a + n ≤ y) → (List.range' a n ++ l).Nodup := by
      intro a n l hl hb
      refine List.nodup_append.mpr ⟨List.nodup_range', hl, ?_⟩
      intro x hx y hy e
      subst e
      have h1 := List.mem_range'_1.mp hx
      have := hb _ hy
      omega
    have mr : ∀ {a n y : Nat}, y ∈ List.range' a n → a ≤ y ∧ y < a + n := fun h => List.mem_range'_1.mp h
    refine znd_of (nd (nd (nd (znd2 (Or.inr (by omega))) ?_) ?_) ?_)
    · intro y hy
      rcases List.mem_append.mp hy with h | h <;> (have := mr h; omega)
    · intro y hy
      rcases List.mem_append.mp hy with h | h
      · have := mr h; omega
      · rcases List.mem_append.mp h with h | h <;> (have := mr h; omega)
    · intro y hy
      rcases List.mem_append.mp hy with h | h
      · have := mr h; omega
      · rcases List.mem_append.mp h with h | h
        · have := mr h; omega
        · rcases List.mem_append.mp h with h | h <;> (have := mr h; omega)
theorem zL_num {g : Nat → Nat → Nat} {b : Nat → Nat} {S : SS} {f : Nat → Int64} : zL (sW g b S) ([(b 1, .inl (g 0 1, 40, .inr (.inl S.2.2)))]) ([(b 1, .inl (g 0 1, 40, .inr (.inl f)))]) (sW g b (S.1, S.2.1, f)) := zL.mk [1] [0] [0, 1] rfl rfl rfl (by decide) rfl rfl rfl
theorem zL_tT {g : Nat → Nat → Nat} {b c : Nat → Nat} {T T2 : TS} {P : RS} : zL (tW g b T ++ rW g c P) (tW g b T) (tW g b T2) (tW g b T2 ++ rW g c P) := zL.app (wc := tW g b T) (wc' := tW g b T2) [] (rW g c P) rfl
theorem zL_tR {g : Nat → Nat → Nat} {b c : Nat → Nat} {T : TS} {P P2 : RS} : zL (tW g b T ++ rW g c P) (rW g c P) (rW g c P2) (tW g b T ++ rW g c P2) := by
  have h := zL.app (wc := rW g c P) (wc' := rW g c P2) (tW g b T) [] rfl
  simpa only [List.append_nil] using h
theorem zL_P {g : Nat → Nat → Nat} {a : Nat → Nat} {f : Nat → Int32} {P K T : RS} {tp : TS} {ss : Nat → SS} {es : Nat → Int32} {kp : Bool} {P2 : RS} : zL (xW g a f P K T tp ss es kp) (rW g (fun j => a (2 + j)) P) (rW g (fun j => a (2 + j)) P2) (xW g a f P2 K T tp ss es kp) := by
  have h := zL.app (wc := rW g (fun j => a (2 + j)) P) (wc' := rW g (fun j => a (2 + j)) P2) ([((a 0, .inr (3, [.ref (a 1), .ref (a 2), .ref (a 11), .ref (a 20), .ref (a 29), .ref (a 31), .ref (a 40), .int (zB kp)])) : Nat × va_E), (a 1, .inl (g 0 0, 7, .inl f))]) (rW g (fun j => a (11 + j)) K ++ (rW g (fun j => a (20 + j)) T ++ (tW g (fun j => a (29 + j)) tp ++ ([((a 31, .inl (g 0 2, 4, .inr (.inr (.inr (.inr (fun j => some (a (32 + 2 * j)))))))) : Nat × va_E)] ++ (sW g (fun j => a (32 + j)) (ss 0) ++ (sW g (fun j => a (34 + j)) (ss 1) ++ (sW g (fun j => a (36 + j)) (ss 2) ++ (sW g (fun j => a (38 + j)) (ss 3) ++ ([((a 40, .inl (g 0 0, 128, .inl es)) : Nat × va_E)]))))))))) rfl
  try simp only [List.append_assoc] at h
  simp only [xW, List.append_assoc]
  exact h
theorem zL_T {g : Nat → Nat → Nat} {a : Nat → Nat} {f : Nat → Int32} {P K T : RS} {tp : TS} {ss : Nat → SS} {es : Nat → Int32} {kp : Bool} {P2 : RS} : zL (xW g a f P K T tp ss es kp) (rW g (fun j => a (20 + j)) T) (rW g (fun j => a (20 + j)) P2) (xW g a f P K P2 tp ss es kp) := by
  have h := zL.app (wc := rW g (fun j => a (20 + j)) T) (wc' := rW g (fun j => a (20 + j)) P2) ([((a 0, .inr (3, [.ref (a 1), .ref (a 2), .ref (a 11), .ref (a 20), .ref (a 29), .ref (a 31), .ref (a 40), .int (zB kp)])) : Nat × va_E), (a 1, .inl (g 0 0, 7, .inl f))] ++ (rW g (fun j => a (2 + j)) P ++ (rW g (fun j => a (11 + j)) K))) (tW g (fun j => a (29 + j)) tp ++ ([((a 31, .inl (g 0 2, 4, .inr (.inr (.inr (.inr (fun j => some (a (32 + 2 * j)))))))) : Nat × va_E)] ++ (sW g (fun j => a (32 + j)) (ss 0) ++ (sW g (fun j => a (34 + j)) (ss 1) ++ (sW g (fun j => a (36 + j)) (ss 2) ++ (sW g (fun j => a (38 + j)) (ss 3) ++ ([((a 40, .inl (g 0 0, 128, .inl es)) : Nat × va_E)]))))))) rfl
  try simp only [List.append_assoc] at h
  simp only [xW, List.append_assoc]
  exact h
theorem zL_tp {g : Nat → Nat → Nat} {a : Nat → Nat} {f : Nat → Int32} {P K T : RS} {tp : TS} {ss : Nat → SS} {es : Nat → Int32} {kp : Bool} {t2 : TS} : zL (xW g a f P K T tp ss es kp) (tW g (fun j => a (29 + j)) tp) (tW g (fun j => a (29 + j)) t2) (xW g a f P K T t2 ss es kp) := by
  have h := zL.app (wc := tW g (fun j => a (29 + j)) tp) (wc' := tW g (fun j => a (29 + j)) t2) ([((a 0, .inr (3, [.ref (a 1), .ref (a 2), .ref (a 11), .ref (a 20), .ref (a 29), .ref (a 31), .ref (a 40), .int (zB kp)])) : Nat × va_E), (a 1, .inl (g 0 0, 7, .inl f))] ++ (rW g (fun j => a (2 + j)) P ++ (rW g (fun j => a (11 + j)) K ++ (rW g (fun j => a (20 + j)) T)))) ([((a 31, .inl (g 0 2, 4, .inr (.inr (.inr (.inr (fun j => some (a (32 + 2 * j)))))))) : Nat × va_E)] ++ (sW g (fun j => a (32 + j)) (ss 0) ++ (sW g (fun j => a (34 + j)) (ss 1) ++ (sW g (fun j => a (36 + j)) (ss 2) ++ (sW g (fun j => a (38 + j)) (ss 3) ++ ([((a 40, .inl (g 0 0, 128, .inl es)) : Nat × va_E)])))))) rfl
  try simp only [List.append_assoc] at h
  simp only [xW, List.append_assoc]
  exact h
theorem zL_s0 {g : Nat → Nat → Nat} {a : Nat → Nat} {f : Nat → Int32} {P K T : RS} {tp : TS} {ss : Nat → SS} {es : Nat → Int32} {kp : Bool}  {S2 : SS} : zL (xW g a f P K T tp ss es kp) (sW g (fun j => a (32 + j)) (ss 0)) (sW g (fun j => a (32 + j)) S2) (xW g a f P K T tp (fun j => if j = 0 then S2 else ss j) es kp) := by
  have h := zL.app (wc := sW g (fun j => a (32 + j)) (ss 0)) (wc' := sW g (fun j => a (32 + j)) S2) ([((a 0, .inr (3, [.ref (a 1), .ref (a 2), .ref (a 11), .ref (a 20), .ref (a 29), .ref (a 31), .ref (a 40), .int (zB kp)])) : Nat × va_E), (a 1, .inl (g 0 0, 7, .inl f))] ++ (rW g (fun j => a (2 + j)) P ++ (rW g (fun j => a (11 + j)) K ++ (rW g (fun j => a (20 + j)) T ++ (tW g (fun j => a (29 + j)) tp ++ ([((a 31, .inl (g 0 2, 4, .inr (.inr (.inr (.inr (fun j => some (a (32 + 2 * j)))))))) : Nat × va_E)])))))) (sW g (fun j => a (34 + j)) (ss 1) ++ (sW g (fun j => a (36 + j)) (ss 2) ++ (sW g (fun j => a (38 + j)) (ss 3) ++ ([((a 40, .inl (g 0 0, 128, .inl es)) : Nat × va_E)])))) rfl
  try simp only [List.append_assoc] at h
  simp only [xW, List.append_assoc]
  exact h
theorem zL_s1 {g : Nat → Nat → Nat} {a : Nat → Nat} {f : Nat → Int32} {P K T : RS} {tp : TS} {ss : Nat → SS} {es : Nat → Int32} {kp : Bool}  {S2 : SS} : zL (xW g a f P K T tp ss es kp) (sW g (fun j => a (34 + j)) (ss 1)) (sW g (fun j => a (34 + j)) S2) (xW g a f P K T tp (fun j => if j = 1 then S2 else ss j) es kp) := by
  have h := zL.app (wc := sW g (fun j => a (34 + j)) (ss 1)) (wc' := sW g (fun j => a (34 + j)) S2) ([((a 0, .inr (3, [.ref (a 1), .ref (a 2), .ref (a 11), .ref (a 20), .ref (a 29), .ref (a 31), .ref (a 40), .int (zB kp)])) : Nat × va_E), (a 1, .inl (g 0 0, 7, .inl f))] ++ (rW g (fun j => a (2 + j)) P ++ (rW g (fun j => a (11 + j)) K ++ (rW g (fun j => a (20 + j)) T ++ (tW g (fun j => a (29 + j)) tp ++ ([((a 31, .inl (g 0 2, 4, .inr (.inr (.inr (.inr (fun j => some (a (32 + 2 * j)))))))) : Nat × va_E)] ++ (sW g (fun j => a (32 + j)) (ss 0)))))))) (sW g (fun j => a (36 + j)) (ss 2) ++ (sW g (fun j => a (38 + j)) (ss 3) ++ ([((a 40, .inl (g 0 0, 128, .inl es)) : Nat × va_E)]))) rfl
  try simp only [List.append_assoc] at h
  simp only [xW, List.append_assoc]
  exact h
theorem zL_s2 {g : Nat → Nat → Nat} {a : Nat → Nat} {f : Nat → Int32} {P K T : RS} {tp : TS} {ss : Nat → SS} {es : Nat → Int32} {kp : Bool}  {S2 : SS} : zL (xW g a f P K T tp ss es kp) (sW g (fun j => a (36 + j)) (ss 2)) (sW g (fun j => a (36 + j)) S2) (xW g a f P K T tp (fun j => if j = 2 then S2 else ss j) es kp) := by
  have h := zL.app (wc := sW g (fun j => a (36 + j)) (ss 2)) (wc' := sW g (fun j => a (36 + j)) S2) ([((a 0, .inr (3, [.ref (a 1), .ref (a 2), .ref (a 11), .ref (a 20), .ref (a 29), .ref (a 31), .ref (a 40), .int (zB kp)])) : Nat × va_E), (a 1, .inl (g 0 0, 7, .inl f))] ++ (rW g (fun j => a (2 + j)) P ++ (rW g (fun j => a (11 + j)) K ++ (rW g (fun j => a (20 + j)) T ++ (tW g (fun j => a (29 + j)) tp ++ ([((a 31, .inl (g 0 2, 4, .inr (.inr (.inr (.inr (fun j => some (a (32 + 2 * j)))))))) : Nat × va_E)] ++ (sW g (fun j => a (32 + j)) (ss 0) ++ (sW g (fun j => a (34 + j)) (ss 1))))))))) (sW g (fun j => a (38 + j)) (ss 3) ++ ([((a 40, .inl (g 0 0, 128, .inl es)) : Nat × va_E)])) rfl
  try simp only [List.append_assoc] at h
  simp only [xW, List.append_assoc]
  exact h
theorem zL_s3 {g : Nat → Nat → Nat} {a : Nat → Nat} {f : Nat → Int32} {P K T : RS} {tp : TS} {ss : Nat → SS} {es : Nat → Int32} {kp : Bool}  {S2 : SS} : zL (xW g a f P K T tp ss es kp) (sW g (fun j => a (38 + j)) (ss 3)) (sW g (fun j => a (38 + j)) S2) (xW g a f P K T tp (fun j => if j = 3 then S2 else ss j) es kp) := by
  have h := zL.app (wc := sW g (fun j => a (38 + j)) (ss 3)) (wc' := sW g (fun j => a (38 + j)) S2) ([((a 0, .inr (3, [.ref (a 1), .ref (a 2), .ref (a 11), .ref (a 20), .ref (a 29), .ref (a 31), .ref (a 40), .int (zB kp)])) : Nat × va_E), (a 1, .inl (g 0 0, 7, .inl f))] ++ (rW g (fun j => a (2 + j)) P ++ (rW g (fun j => a (11 + j)) K ++ (rW g (fun j => a (20 + j)) T ++ (tW g (fun j => a (29 + j)) tp ++ ([((a 31, .inl (g 0 2, 4, .inr (.inr (.inr (.inr (fun j => some (a (32 + 2 * j)))))))) : Nat × va_E)] ++ (sW g (fun j => a (32 + j)) (ss 0) ++ (sW g (fun j => a (34 + j)) (ss 1) ++ (sW g (fun j => a (36 + j)) (ss 2)))))))))) ([((a 40, .inl (g 0 0, 128, .inl es)) : Nat × va_E)]) rfl
  try simp only [List.append_assoc] at h
  simp only [xW, List.append_assoc]
  exact h
theorem zL_TP {g : Nat → Nat → Nat} {a : Nat → Nat} {f : Nat → Int32} {P K T : RS} {tp : TS} {ss : Nat → SS} {es : Nat → Int32} {kp : Bool} {P2 : RS} : zL (xW g a f P K T tp ss es kp) (rW g (fun j => a (20 + j)) T ++ rW g (fun j => a (2 + j)) P) (rW g (fun j => a (20 + j)) P2 ++ rW g (fun j => a (2 + j)) P) (xW g a f P K P2 tp ss es kp) := by
  have h := zL.app2 (p := rW g (fun j => a (2 + j)) P) (t := rW g (fun j => a (20 + j)) T) (p' := rW g (fun j => a (2 + j)) P) (t' := rW g (fun j => a (20 + j)) P2) ([((a 0, .inr (3, [.ref (a 1), .ref (a 2), .ref (a 11), .ref (a 20), .ref (a 29), .ref (a 31), .ref (a 40), .int (zB kp)])) : Nat × va_E), (a 1, .inl (g 0 0, 7, .inl f))]) (rW g (fun j => a (11 + j)) K) (tW g (fun j => a (29 + j)) tp ++ ([((a 31, .inl (g 0 2, 4, .inr (.inr (.inr (.inr (fun j => some (a (32 + 2 * j)))))))) : Nat × va_E)] ++ (sW g (fun j => a (32 + j)) (ss 0) ++ (sW g (fun j => a (34 + j)) (ss 1) ++ (sW g (fun j => a (36 + j)) (ss 2) ++ (sW g (fun j => a (38 + j)) (ss 3) ++ ([((a 40, .inl (g 0 0, 128, .inl es)) : Nat × va_E)]))))))) rfl rfl
  have h := zL.swap (x := rW g (fun j => a (2 + j)) P) (y := rW g (fun j => a (20 + j)) T) (x' := rW g (fun j => a (2 + j)) P) (y' := rW g (fun j => a (20 + j)) P2) rfl rfl h
  try simp only [List.append_assoc, List.nil_append] at h
  simp only [xW, List.append_assoc]
  exact h
theorem zL_PT {g : Nat → Nat → Nat} {a : Nat → Nat} {f : Nat → Int32} {P K T : RS} {tp : TS} {ss : Nat → SS} {es : Nat → Int32} {kp : Bool} {P2 : RS} : zL (xW g a f P K T tp ss es kp) (rW g (fun j => a (2 + j)) P ++ rW g (fun j => a (20 + j)) T) (rW g (fun j => a (2 + j)) P2 ++ rW g (fun j => a (20 + j)) T) (xW g a f P2 K T tp ss es kp) := by
  have h := zL.app2 (p := rW g (fun j => a (2 + j)) P) (t := rW g (fun j => a (20 + j)) T) (p' := rW g (fun j => a (2 + j)) P2) (t' := rW g (fun j => a (20 + j)) T) ([((a 0, .inr (3, [.ref (a 1), .ref (a 2), .ref (a 11), .ref (a 20), .ref (a 29), .ref (a 31), .ref (a 40), .int (zB kp)])) : Nat × va_E), (a 1, .inl (g 0 0, 7, .inl f))]) (rW g (fun j => a (11 + j)) K) (tW g (fun j => a (29 + j)) tp ++ ([((a 31, .inl (g 0 2, 4, .inr (.inr (.inr (.inr (fun j => some (a (32 + 2 * j)))))))) : Nat × va_E)] ++ (sW g (fun j => a (32 + j)) (ss 0) ++ (sW g (fun j => a (34 + j)) (ss 1) ++ (sW g (fun j => a (36 + j)) (ss 2) ++ (sW g (fun j => a (38 + j)) (ss 3) ++ ([((a 40, .inl (g 0 0, 128, .inl es)) : Nat × va_E)]))))))) rfl rfl
  try simp only [List.append_assoc, List.nil_append] at h
  simp only [xW, List.append_assoc]
  exact h
theorem zL_KP {g : Nat → Nat → Nat} {a : Nat → Nat} {f : Nat → Int32} {P K T : RS} {tp : TS} {ss : Nat → SS} {es : Nat → Int32} {kp : Bool} {P2 : RS} : zL (xW g a f P K T tp ss es kp) (rW g (fun j => a (11 + j)) K ++ rW g (fun j => a (2 + j)) P) (rW g (fun j => a (11 + j)) P2 ++ rW g (fun j => a (2 + j)) P) (xW g a f P P2 T tp ss es kp) := by
  have h := zL.app2 (p := rW g (fun j => a (2 + j)) P) (t := rW g (fun j => a (11 + j)) K) (p' := rW g (fun j => a (2 + j)) P) (t' := rW g (fun j => a (11 + j)) P2) ([((a 0, .inr (3, [.ref (a 1), .ref (a 2), .ref (a 11), .ref (a 20), .ref (a 29), .ref (a 31), .ref (a 40), .int (zB kp)])) : Nat × va_E), (a 1, .inl (g 0 0, 7, .inl f))]) ([]) (rW g (fun j => a (20 + j)) T ++ (tW g (fun j => a (29 + j)) tp ++ ([((a 31, .inl (g 0 2, 4, .inr (.inr (.inr (.inr (fun j => some (a (32 + 2 * j)))))))) : Nat × va_E)] ++ (sW g (fun j => a (32 + j)) (ss 0) ++ (sW g (fun j => a (34 + j)) (ss 1) ++ (sW g (fun j => a (36 + j)) (ss 2) ++ (sW g (fun j => a (38 + j)) (ss 3) ++ ([((a 40, .inl (g 0 0, 128, .inl es)) : Nat × va_E)])))))))) rfl rfl
  have h := zL.swap (x := rW g (fun j => a (2 + j)) P) (y := rW g (fun j => a (11 + j)) K) (x' := rW g (fun j => a (2 + j)) P) (y' := rW g (fun j => a (11 + j)) P2) rfl rfl h
  try simp only [List.append_assoc, List.nil_append] at h
  simp only [xW, List.append_assoc]
  exact h
theorem zL_PK {g : Nat → Nat → Nat} {a : Nat → Nat} {f : Nat → Int32} {P K T : RS} {tp : TS} {ss : Nat → SS} {es : Nat → Int32} {kp : Bool} {P2 : RS} : zL (xW g a f P K T tp ss es kp) (rW g (fun j => a (2 + j)) P ++ rW g (fun j => a (11 + j)) K) (rW g (fun j => a (2 + j)) P2 ++ rW g (fun j => a (11 + j)) K) (xW g a f P2 K T tp ss es kp) := by
  have h := zL.app2 (p := rW g (fun j => a (2 + j)) P) (t := rW g (fun j => a (11 + j)) K) (p' := rW g (fun j => a (2 + j)) P2) (t' := rW g (fun j => a (11 + j)) K) ([((a 0, .inr (3, [.ref (a 1), .ref (a 2), .ref (a 11), .ref (a 20), .ref (a 29), .ref (a 31), .ref (a 40), .int (zB kp)])) : Nat × va_E), (a 1, .inl (g 0 0, 7, .inl f))]) ([]) (rW g (fun j => a (20 + j)) T ++ (tW g (fun j => a (29 + j)) tp ++ ([((a 31, .inl (g 0 2, 4, .inr (.inr (.inr (.inr (fun j => some (a (32 + 2 * j)))))))) : Nat × va_E)] ++ (sW g (fun j => a (32 + j)) (ss 0) ++ (sW g (fun j => a (34 + j)) (ss 1) ++ (sW g (fun j => a (36 + j)) (ss 2) ++ (sW g (fun j => a (38 + j)) (ss 3) ++ ([((a 40, .inl (g 0 0, 128, .inl es)) : Nat × va_E)])))))))) rfl rfl
  try simp only [List.append_assoc, List.nil_append] at h
  simp only [xW, List.append_assoc]
  exact h
theorem zL_tpT {g : Nat → Nat → Nat} {a : Nat → Nat} {f : Nat → Int32} {P K T : RS} {tp : TS} {ss : Nat → SS} {es : Nat → Int32} {kp : Bool} {t2 : TS} {P2 : RS} : zL (xW g a f P K T tp ss es kp) (tW g (fun j => a (29 + j)) tp ++ rW g (fun j => a (20 + j)) T) (tW g (fun j => a (29 + j)) t2 ++ rW g (fun j => a (20 + j)) P2) (xW g a f P K P2 t2 ss es kp) := by
  have h := zL.app2 (p := rW g (fun j => a (20 + j)) T) (t := tW g (fun j => a (29 + j)) tp) (p' := rW g (fun j => a (20 + j)) P2) (t' := tW g (fun j => a (29 + j)) t2) ([((a 0, .inr (3, [.ref (a 1), .ref (a 2), .ref (a 11), .ref (a 20), .ref (a 29), .ref (a 31), .ref (a 40), .int (zB kp)])) : Nat × va_E), (a 1, .inl (g 0 0, 7, .inl f))] ++ (rW g (fun j => a (2 + j)) P ++ (rW g (fun j => a (11 + j)) K))) ([]) ([((a 31, .inl (g 0 2, 4, .inr (.inr (.inr (.inr (fun j => some (a (32 + 2 * j)))))))) : Nat × va_E)] ++ (sW g (fun j => a (32 + j)) (ss 0) ++ (sW g (fun j => a (34 + j)) (ss 1) ++ (sW g (fun j => a (36 + j)) (ss 2) ++ (sW g (fun j => a (38 + j)) (ss 3) ++ ([((a 40, .inl (g 0 0, 128, .inl es)) : Nat × va_E)])))))) rfl rfl
  have h := zL.swap (x := rW g (fun j => a (20 + j)) T) (y := tW g (fun j => a (29 + j)) tp) (x' := rW g (fun j => a (20 + j)) P2) (y' := tW g (fun j => a (29 + j)) t2) rfl rfl h
  try simp only [List.append_assoc, List.nil_append] at h
  simp only [xW, List.append_assoc]
  exact h
