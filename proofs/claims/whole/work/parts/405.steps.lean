/-! ===== the two beside each other ===== -/
def zLw (g : Nat → Nat → Nat) (a mb : Nat → Nat) (w : va_W) : Prop := ∃ (f : Nat → Int32) (P K T : RS) (tp : TS) (ss : Nat → SS) (es : Nat → Int32) (kp : Bool) (x0 x3 x4 : Nat → Int32) (x5 : Nat → Int64) (x8 : Int32) (x9 x10 : Nat) (x11 : Int64) (x12 : Int32) (x13 : Bool) (x17 : Nat → Int64) (x18 x19 : Nat → Int32),
  w = xW g a f P K T tp ss es kp ++ mV g mb x0 f 127 x3 x4 x5 tp.1 tp.2.1 x8 x9 x10 x11 x12 x13 (q_b14 ss) (q_b15 ss) (q_b16 ss) x17 x18 x19 kp ∧ zRo P x0 ∧ zPi P ∧ zRg P ∧ (kp = true → zRo K x18 ∧ zPi K ∧ zRg K) ∧ tp.2.1 ≤ 120 ∧ (∀ i, i < tp.2.1 → ∃ c, c < 256 ∧ tp.1 i = nI c) ∧ (∀ k, k < 4 → (ss k).2.1 ≤ 40)
def zStI (g : Nat → Nat → Nat) (a mb : Nat → Nat) (yx : MethodName) (bx : ByteArray) (nx dx : Nat) (ym : MethodName) (bm : ByteArray) (nm dm : Nat) (av : List Value) : Prop :=
  ∀ w, zLw g a mb w → ∃ (r : Int32) (X X' M M' : va_W) (fx fm : List Value), w = X ++ M ∧ (X ++ M)[0]? = some (a 0, .inr (3, fx)) ∧ (X' ++ M)[41]? = some (mb 0, .inr (4, fm)) ∧ zM g yx bx nx (some .int) dx (.ref (a 0) :: av) X [.int r] X' ∧ zM g ym bm nm (some .int) dm (.ref (mb 0) :: av) M [.int r] M' ∧ zLw g a mb (X' ++ M')
def zStL (g : Nat → Nat → Nat) (a mb : Nat → Nat) (yx : MethodName) (bx : ByteArray) (nx dx : Nat) (ym : MethodName) (bm : ByteArray) (nm dm : Nat) (av : List Value) : Prop :=
  ∀ w, zLw g a mb w → ∃ (r : Int64) (X X' M M' : va_W) (fx fm : List Value), w = X ++ M ∧ (X ++ M)[0]? = some (a 0, .inr (3, fx)) ∧ (X' ++ M)[41]? = some (mb 0, .inr (4, fm)) ∧ zM g yx bx nx (some .long) dx (.ref (a 0) :: av) X [.long r] X' ∧ zM g ym bm nm (some .long) dm (.ref (mb 0) :: av) M [.long r] M' ∧ zLw g a mb (X' ++ M')
set_option maxRecDepth 100000 in
theorem s_of {g : Nat → Nat → Nat} {a mb : Nat → Nat} {i : Int32} {w : Int32} : zStI g a mb y_Sx_of b_Sx_of 3 2 y_Mo_of b_Mo_of 3 4 [.int i, .int w] := by
  intro w hw
  obtain ⟨f, P, K, T, tp, ss, es, kp, x0, x3, x4, x5, x8, x9, x10, x11, x12, x13, x17, x18, x19, rfl, hR, hP, hG, hK, hz, hb, hs⟩ := hw
  have h7 := hP.1
  have hx := m_Sx_of (g := g) (a := a) (f := f) (P := P) (K := K) (T := T) (tp := tp) (ss := ss) (es := es) (kp := kp) (i := i) (w := w) hP
  have hm := m_Mo_of (g := g) (a := mb) (x0 := x0) (x1 := f) (x3 := x3) (x4 := x4) (x5 := x5) (x6 := tp.1) (x7 := tp.2.1) (x8 := x8) (x9 := x9) (x10 := x10) (x11 := x11) (x12 := x12) (x13 := x13) (x17 := x17) (x18 := x18) (x19 := x19) (x20 := kp) (x14 := q_b14 ss) (x15 := q_b15 ss) (x16 := q_b16 ss) (P := P) (i := i) (w := w) hR hP hG
  exact ⟨(p_of f P i w).1, xW g a f P K T tp ss es kp, xW g a ((p_of f P i w).2) P K T tp ss es kp, mV g mb x0 f 127 x3 x4 x5 tp.1 tp.2.1 x8 x9 x10 x11 x12 x13 (q_b14 ss) (q_b15 ss) (q_b16 ss) x17 x18 x19 kp, mV g mb x0 ((p_of f P i w).2) 127 x3 x4 x5 tp.1 tp.2.1 x8 x9 x10 x11 x12 x13 (q_b14 ss) (q_b15 ss) (q_b16 ss) x17 x18 x19 kp, _, _, rfl, rfl, rfl, hx, hm, ⟨(p_of f P i w).2, P, K, T, tp, ss, es, kp, x0, x3, x4, x5, x8, x9, x10, x11, x12, x13, x17, x18, x19, rfl, hR, hP, hG, hK, hz, hb, hs⟩⟩
set_option maxRecDepth 100000 in
theorem s_as {g : Nat → Nat → Nat} {a mb : Nat → Nat} {i : Int32} {k : Int32} : zStI g a mb y_Sx_as b_Sx_as 3 2 y_Mo_as b_Mo_as 3 2 [.int i, .int k] := by
  intro w hw
  obtain ⟨f, P, K, T, tp, ss, es, kp, x0, x3, x4, x5, x8, x9, x10, x11, x12, x13, x17, x18, x19, rfl, hR, hP, hG, hK, hz, hb, hs⟩ := hw
  have h7 := hP.1
  have hx := m_Sx_as (g := g) (a := a) (f := f) (P := P) (K := K) (T := T) (tp := tp) (ss := ss) (es := es) (kp := kp) (i := i) (k := k) hP
  have hm := m_Mo_as (g := g) (a := mb) (x0 := x0) (x1 := f) (x3 := x3) (x4 := x4) (x5 := x5) (x6 := tp.1) (x7 := tp.2.1) (x8 := x8) (x9 := x9) (x10 := x10) (x11 := x11) (x12 := x12) (x13 := x13) (x17 := x17) (x18 := x18) (x19 := x19) (x20 := kp) (x14 := q_b14 ss) (x15 := q_b15 ss) (x16 := q_b16 ss) (P := P) (i := i) (k := k) hR hP hG
  exact ⟨(p_as f P i k).1, xW g a f P K T tp ss es kp, xW g a ((p_as f P i k).2) P K T tp ss es kp, mV g mb x0 f 127 x3 x4 x5 tp.1 tp.2.1 x8 x9 x10 x11 x12 x13 (q_b14 ss) (q_b15 ss) (q_b16 ss) x17 x18 x19 kp, mV g mb x0 ((p_as f P i k).2) 127 x3 x4 x5 tp.1 tp.2.1 x8 x9 x10 x11 x12 x13 (q_b14 ss) (q_b15 ss) (q_b16 ss) x17 x18 x19 kp, _, _, rfl, rfl, rfl, hx, hm, ⟨(p_as f P i k).2, P, K, T, tp, ss, es, kp, x0, x3, x4, x5, x8, x9, x10, x11, x12, x13, x17, x18, x19, rfl, hR, hP, hG, hK, hz, hb, hs⟩⟩
set_option maxRecDepth 100000 in
theorem s_does {g : Nat → Nat → Nat} {a mb : Nat → Nat} {i : Int32} {k : Int32} : zStI g a mb y_Sx_does b_Sx_does 3 2 y_Mo_does b_Mo_does 3 2 [.int i, .int k] := by
  intro w hw
  obtain ⟨f, P, K, T, tp, ss, es, kp, x0, x3, x4, x5, x8, x9, x10, x11, x12, x13, x17, x18, x19, rfl, hR, hP, hG, hK, hz, hb, hs⟩ := hw
  have h7 := hP.1
  have hx := m_Sx_does (g := g) (a := a) (f := f) (P := P) (K := K) (T := T) (tp := tp) (ss := ss) (es := es) (kp := kp) (i := i) (k := k) hP
  have hm := m_Mo_does (g := g) (a := mb) (x0 := x0) (x1 := f) (x3 := x3) (x4 := x4) (x5 := x5) (x6 := tp.1) (x7 := tp.2.1) (x8 := x8) (x9 := x9) (x10 := x10) (x11 := x11) (x12 := x12) (x13 := x13) (x17 := x17) (x18 := x18) (x19 := x19) (x20 := kp) (x14 := q_b14 ss) (x15 := q_b15 ss) (x16 := q_b16 ss) (P := P) (i := i) (k := k) hR hP hG
  exact ⟨(p_does f P i k).1, xW g a f P K T tp ss es kp, xW g a ((p_does f P i k).2) P K T tp ss es kp, mV g mb x0 f 127 x3 x4 x5 tp.1 tp.2.1 x8 x9 x10 x11 x12 x13 (q_b14 ss) (q_b15 ss) (q_b16 ss) x17 x18 x19 kp, mV g mb x0 ((p_does f P i k).2) 127 x3 x4 x5 tp.1 tp.2.1 x8 x9 x10 x11 x12 x13 (q_b14 ss) (q_b15 ss) (q_b16 ss) x17 x18 x19 kp, _, _, rfl, rfl, rfl, hx, hm, ⟨(p_does f P i k).2, P, K, T, tp, ss, es, kp, x0, x3, x4, x5, x8, x9, x10, x11, x12, x13, x17, x18, x19, rfl, hR, hP, hG, hK, hz, hb, hs⟩⟩
set_option maxRecDepth 100000 in
theorem s_taskOf {g : Nat → Nat → Nat} {a mb : Nat → Nat} {i : Int32} {w : Int32} : zStI g a mb y_Sx_taskOf b_Sx_taskOf 5 4 y_Mo_taskOf b_Mo_taskOf 3 7 [.int i, .int w] := by
  intro w hw
  obtain ⟨f, P, K, T, tp, ss, es, kp, x0, x3, x4, x5, x8, x9, x10, x11, x12, x13, x17, x18, x19, rfl, hR, hP, hG, hK, hz, hb, hs⟩ := hw
  have h7 := hP.1
  have hx := m_Sx_taskOf (g := g) (a := a) (f := f) (P := P) (K := K) (T := T) (tp := tp) (ss := ss) (es := es) (kp := kp) (i := i) (w := w) hP
  have hm := m_Mo_taskOf (g := g) (a := mb) (x0 := x0) (x1 := f) (x3 := x3) (x4 := x4) (x5 := x5) (x6 := tp.1) (x7 := tp.2.1) (x8 := x8) (x9 := x9) (x10 := x10) (x11 := x11) (x12 := x12) (x13 := x13) (x17 := x17) (x18 := x18) (x19 := x19) (x20 := kp) (x14 := q_b14 ss) (x15 := q_b15 ss) (x16 := q_b16 ss) (P := P) (i := i) (w := w) hR hP hG
  exact ⟨(p_taskOf f P i w).1, xW g a f P K T tp ss es kp, xW g a ((p_taskOf f P i w).2) P K T tp ss es kp, mV g mb x0 f 127 x3 x4 x5 tp.1 tp.2.1 x8 x9 x10 x11 x12 x13 (q_b14 ss) (q_b15 ss) (q_b16 ss) x17 x18 x19 kp, mV g mb x0 ((p_taskOf f P i w).2) 127 x3 x4 x5 tp.1 tp.2.1 x8 x9 x10 x11 x12 x13 (q_b14 ss) (q_b15 ss) (q_b16 ss) x17 x18 x19 kp, _, _, rfl, rfl, rfl, hx, hm, ⟨(p_taskOf f P i w).2, P, K, T, tp, ss, es, kp, x0, x3, x4, x5, x8, x9, x10, x11, x12, x13, x17, x18, x19, rfl, hR, hP, hG, hK, hz, hb, hs⟩⟩
set_option maxRecDepth 100000 in
theorem s_helps {g : Nat → Nat → Nat} {a mb : Nat → Nat} {i : Int32} {u : Int32} : zStI g a mb y_Sx_helps b_Sx_helps 4 3 y_Mo_helps b_Mo_helps 3 5 [.int i, .int u] := by
  intro w hw
  obtain ⟨f, P, K, T, tp, ss, es, kp, x0, x3, x4, x5, x8, x9, x10, x11, x12, x13, x17, x18, x19, rfl, hR, hP, hG, hK, hz, hb, hs⟩ := hw
  have h7 := hP.1
  have hx := m_Sx_helps (g := g) (a := a) (f := f) (P := P) (K := K) (T := T) (tp := tp) (ss := ss) (es := es) (kp := kp) (i := i) (u := u) hP
  have hm := m_Mo_helps (g := g) (a := mb) (x0 := x0) (x1 := f) (x3 := x3) (x4 := x4) (x5 := x5) (x6 := tp.1) (x7 := tp.2.1) (x8 := x8) (x9 := x9) (x10 := x10) (x11 := x11) (x12 := x12) (x13 := x13) (x17 := x17) (x18 := x18) (x19 := x19) (x20 := kp) (x14 := q_b14 ss) (x15 := q_b15 ss) (x16 := q_b16 ss) (P := P) (i := i) (u := u) hR hP hG
  exact ⟨(p_helps f P i u).1, xW g a f P K T tp ss es kp, xW g a ((p_helps f P i u).2) P K T tp ss es kp, mV g mb x0 f 127 x3 x4 x5 tp.1 tp.2.1 x8 x9 x10 x11 x12 x13 (q_b14 ss) (q_b15 ss) (q_b16 ss) x17 x18 x19 kp, mV g mb x0 ((p_helps f P i u).2) 127 x3 x4 x5 tp.1 tp.2.1 x8 x9 x10 x11 x12 x13 (q_b14 ss) (q_b15 ss) (q_b16 ss) x17 x18 x19 kp, _, _, rfl, rfl, rfl, hx, hm, ⟨(p_helps f P i u).2, P, K, T, tp, ss, es, kp, x0, x3, x4, x5, x8, x9, x10, x11, x12, x13, x17, x18, x19, rfl, hR, hP, hG, hK, hz, hb, hs⟩⟩
set_option maxRecDepth 100000 in
theorem s_fewest {g : Nat → Nat → Nat} {a mb : Nat → Nat} {i : Int32} : zStI g a mb y_Sx_fewest b_Sx_fewest 3 5 y_Mo_fewest b_Mo_fewest 3 10 [.int i] := by
  intro w hw
  obtain ⟨f, P, K, T, tp, ss, es, kp, x0, x3, x4, x5, x8, x9, x10, x11, x12, x13, x17, x18, x19, rfl, hR, hP, hG, hK, hz, hb, hs⟩ := hw
  have h7 := hP.1
  have hx := m_Sx_fewest (g := g) (a := a) (f := f) (P := P) (K := K) (T := T) (tp := tp) (ss := ss) (es := es) (kp := kp) (i := i) hP
  have hm := m_Mo_fewest (g := g) (a := mb) (x0 := x0) (x1 := f) (x3 := x3) (x4 := x4) (x5 := x5) (x6 := tp.1) (x7 := tp.2.1) (x8 := x8) (x9 := x9) (x10 := x10) (x11 := x11) (x12 := x12) (x13 := x13) (x17 := x17) (x18 := x18) (x19 := x19) (x20 := kp) (x14 := q_b14 ss) (x15 := q_b15 ss) (x16 := q_b16 ss) (P := P) (i := i) hR hP hG
  exact ⟨(p_fewest f P i).1, xW g a f P K T tp ss es kp, xW g a ((p_fewest f P i).2) P K T tp ss es kp, mV g mb x0 f 127 x3 x4 x5 tp.1 tp.2.1 x8 x9 x10 x11 x12 x13 (q_b14 ss) (q_b15 ss) (q_b16 ss) x17 x18 x19 kp, mV g mb x0 ((p_fewest f P i).2) 127 x3 x4 x5 tp.1 tp.2.1 x8 x9 x10 x11 x12 x13 (q_b14 ss) (q_b15 ss) (q_b16 ss) x17 x18 x19 kp, _, _, rfl, rfl, rfl, hx, hm, ⟨(p_fewest f P i).2, P, K, T, tp, ss, es, kp, x0, x3, x4, x5, x8, x9, x10, x11, x12, x13, x17, x18, x19, rfl, hR, hP, hG, hK, hz, hb, hs⟩⟩
set_option maxRecDepth 100000 in
theorem s_who {g : Nat → Nat → Nat} {a mb : Nat → Nat} {i : Int32} : zStI g a mb y_Sx_who b_Sx_who 3 5 y_Mo_who b_Mo_who 3 10 [.int i] := by
  intro w hw
  obtain ⟨f, P, K, T, tp, ss, es, kp, x0, x3, x4, x5, x8, x9, x10, x11, x12, x13, x17, x18, x19, rfl, hR, hP, hG, hK, hz, hb, hs⟩ := hw
  have h7 := hP.1
  have hx := m_Sx_who (g := g) (a := a) (f := f) (P := P) (K := K) (T := T) (tp := tp) (ss := ss) (es := es) (kp := kp) (i := i) hP
  have hm := m_Mo_who (g := g) (a := mb) (x0 := x0) (x1 := f) (x3 := x3) (x4 := x4) (x5 := x5) (x6 := tp.1) (x7 := tp.2.1) (x8 := x8) (x9 := x9) (x10 := x10) (x11 := x11) (x12 := x12) (x13 := x13) (x17 := x17) (x18 := x18) (x19 := x19) (x20 := kp) (x14 := q_b14 ss) (x15 := q_b15 ss) (x16 := q_b16 ss) (P := P) (i := i) hR hP hG
  exact ⟨(p_who f P i).1, xW g a f P K T tp ss es kp, xW g a ((p_who f P i).2) P K T tp ss es kp, mV g mb x0 f 127 x3 x4 x5 tp.1 tp.2.1 x8 x9 x10 x11 x12 x13 (q_b14 ss) (q_b15 ss) (q_b16 ss) x17 x18 x19 kp, mV g mb x0 ((p_who f P i).2) 127 x3 x4 x5 tp.1 tp.2.1 x8 x9 x10 x11 x12 x13 (q_b14 ss) (q_b15 ss) (q_b16 ss) x17 x18 x19 kp, _, _, rfl, rfl, rfl, hx, hm, ⟨(p_who f P i).2, P, K, T, tp, ss, es, kp, x0, x3, x4, x5, x8, x9, x10, x11, x12, x13, x17, x18, x19, rfl, hR, hP, hG, hK, hz, hb, hs⟩⟩
set_option maxRecDepth 100000 in
theorem s_fellow {g : Nat → Nat → Nat} {a mb : Nat → Nat} {k : Int32} {m : Int32} : zStI g a mb y_Sx_fellow b_Sx_fellow 3 2 y_Mo_fellow b_Mo_fellow 3 2 [.int k, .int m] := by
  intro w hw
  obtain ⟨f, P, K, T, tp, ss, es, kp, x0, x3, x4, x5, x8, x9, x10, x11, x12, x13, x17, x18, x19, rfl, hR, hP, hG, hK, hz, hb, hs⟩ := hw
  have h7 := hP.1
  have hx := m_Sx_fellow (g := g) (a := a) (f := f) (P := P) (K := K) (T := T) (tp := tp) (ss := ss) (es := es) (kp := kp) (k := k) (m := m) hP
  have hm := m_Mo_fellow (g := g) (a := mb) (x0 := x0) (x1 := f) (x3 := x3) (x4 := x4) (x5 := x5) (x6 := tp.1) (x7 := tp.2.1) (x8 := x8) (x9 := x9) (x10 := x10) (x11 := x11) (x12 := x12) (x13 := x13) (x17 := x17) (x18 := x18) (x19 := x19) (x20 := kp) (x14 := q_b14 ss) (x15 := q_b15 ss) (x16 := q_b16 ss) (P := P) (k := k) (m := m) hR hP hG
  have ht := th_fellow f hR hP hG k m
  exact ⟨(p_fellow f P k m).1, xW g a f P K T tp ss es kp, xW g a ((p_fellow f P k m).2.1) ((p_fellow f P k m).2.2) K T tp ss es kp, mV g mb x0 f 127 x3 x4 x5 tp.1 tp.2.1 x8 x9 x10 x11 x12 x13 (q_b14 ss) (q_b15 ss) (q_b16 ss) x17 x18 x19 kp, mV g mb (if (q_in k 0 5 && q_in m 0 30 && decide (P.2.1 < 7)) = true then q_ad x0 P.2.1 k m m 3 0 else x0) ((p_fellow f P k m).2.1) 127 x3 x4 x5 tp.1 tp.2.1 x8 x9 x10 x11 x12 x13 (q_b14 ss) (q_b15 ss) (q_b16 ss) x17 x18 x19 kp, _, _, rfl, rfl, rfl, hx, hm, ⟨(p_fellow f P k m).2.1, (p_fellow f P k m).2.2, K, T, tp, ss, es, kp, if (q_in k 0 5 && q_in m 0 30 && decide (P.2.1 < 7)) = true then q_ad x0 P.2.1 k m m 3 0 else x0, x3, x4, x5, x8, x9, x10, x11, x12, x13, x17, x18, x19, rfl, ht.1, ht.2.1, ht.2.2, hK, hz, hb, hs⟩⟩
set_option maxRecDepth 100000 in
theorem s_task {g : Nat → Nat → Nat} {a mb : Nat → Nat} {so : Int32} {m : Int32} {ne : Int32} {pa : Int32} : zStI g a mb y_Sx_task b_Sx_task 5 2 y_Mo_task b_Mo_task 5 3 [.int so, .int m, .int ne, .int pa] := by
  intro w hw
  obtain ⟨f, P, K, T, tp, ss, es, kp, x0, x3, x4, x5, x8, x9, x10, x11, x12, x13, x17, x18, x19, rfl, hR, hP, hG, hK, hz, hb, hs⟩ := hw
  have h7 := hP.1
  have hx := m_Sx_task (g := g) (a := a) (f := f) (P := P) (K := K) (T := T) (tp := tp) (ss := ss) (es := es) (kp := kp) (so := so) (m := m) (ne := ne) (pa := pa) hP
  have hm := m_Mo_task (g := g) (a := mb) (x0 := x0) (x1 := f) (x3 := x3) (x4 := x4) (x5 := x5) (x6 := tp.1) (x7 := tp.2.1) (x8 := x8) (x9 := x9) (x10 := x10) (x11 := x11) (x12 := x12) (x13 := x13) (x17 := x17) (x18 := x18) (x19 := x19) (x20 := kp) (x14 := q_b14 ss) (x15 := q_b15 ss) (x16 := q_b16 ss) (P := P) (so := so) (m := m) (ne := ne) (pa := pa) hR hP hG
  have ht := th_task f hR hP hG so m ne pa
  exact ⟨(p_task f P so m ne pa).1, xW g a f P K T tp ss es kp, xW g a ((p_task f P so m ne pa).2.1) ((p_task f P so m ne pa).2.2) K T tp ss es kp, mV g mb x0 f 127 x3 x4 x5 tp.1 tp.2.1 x8 x9 x10 x11 x12 x13 (q_b14 ss) (q_b15 ss) (q_b16 ss) x17 x18 x19 kp, mV g mb (if ((q_in so 0 4 && (q_in m 0 30 && (q_in ne 1 99 && q_in pa 0 99))) && decide (P.2.2.1 < 8)) = true then q_at x0 P.2.2.1 so m ne pa else x0) ((p_task f P so m ne pa).2.1) 127 x3 x4 x5 tp.1 tp.2.1 x8 x9 x10 x11 x12 x13 (q_b14 ss) (q_b15 ss) (q_b16 ss) x17 x18 x19 kp, _, _, rfl, rfl, rfl, hx, hm, ⟨(p_task f P so m ne pa).2.1, (p_task f P so m ne pa).2.2, K, T, tp, ss, es, kp, if ((q_in so 0 4 && (q_in m 0 30 && (q_in ne 1 99 && q_in pa 0 99))) && decide (P.2.2.1 < 8)) = true then q_at x0 P.2.2.1 so m ne pa else x0, x3, x4, x5, x8, x9, x10, x11, x12, x13, x17, x18, x19, rfl, ht.1, ht.2.1, ht.2.2, hK, hz, hb, hs⟩⟩
set_option maxRecDepth 100000 in
theorem s_turn {g : Nat → Nat → Nat} {a mb : Nat → Nat} {i : Int32} {k : Int32} : zStI g a mb y_Sx_turn b_Sx_turn 4 2 y_Mo_turn b_Mo_turn 4 2 [.int i, .int k] := by
  intro w hw
  obtain ⟨f, P, K, T, tp, ss, es, kp, x0, x3, x4, x5, x8, x9, x10, x11, x12, x13, x17, x18, x19, rfl, hR, hP, hG, hK, hz, hb, hs⟩ := hw
  have h7 := hP.1
  have hx := m_Sx_turn (g := g) (a := a) (f := f) (P := P) (K := K) (T := T) (tp := tp) (ss := ss) (es := es) (kp := kp) (i := i) (k := k) hP
  have hm := m_Mo_turn (g := g) (a := mb) (x0 := x0) (x1 := f) (x3 := x3) (x4 := x4) (x5 := x5) (x6 := tp.1) (x7 := tp.2.1) (x8 := x8) (x9 := x9) (x10 := x10) (x11 := x11) (x12 := x12) (x13 := x13) (x17 := x17) (x18 := x18) (x19 := x19) (x20 := kp) (x14 := q_b14 ss) (x15 := q_b15 ss) (x16 := q_b16 ss) (P := P) (i := i) (k := k) hR hP hG
  have ht := th_turn f hR hP hG i k
  exact ⟨(p_turn f P i k).1, xW g a f P K T tp ss es kp, xW g a ((p_turn f P i k).2.1) ((p_turn f P i k).2.2) K T tp ss es kp, mV g mb x0 f 127 x3 x4 x5 tp.1 tp.2.1 x8 x9 x10 x11 x12 x13 (q_b14 ss) (q_b15 ss) (q_b16 ss) x17 x18 x19 kp, mV g mb (if (q_ix i P.2.1 && q_in k 0 5) = true then upd x0 (3 + 5 * i.toNatClampNeg + 0) k else x0) ((p_turn f P i k).2.1) 127 x3 x4 x5 tp.1 tp.2.1 x8 x9 x10 x11 x12 x13 (q_b14 ss) (q_b15 ss) (q_b16 ss) x17 x18 x19 kp, _, _, rfl, rfl, rfl, hx, hm, ⟨(p_turn f P i k).2.1, (p_turn f P i k).2.2, K, T, tp, ss, es, kp, if (q_ix i P.2.1 && q_in k 0 5) = true then upd x0 (3 + 5 * i.toNatClampNeg + 0) k else x0, x3, x4, x5, x8, x9, x10, x11, x12, x13, x17, x18, x19, rfl, ht.1, ht.2.1, ht.2.2, hK, hz, hb, hs⟩⟩
set_option maxRecDepth 100000 in
theorem s_set {g : Nat → Nat → Nat} {a mb : Nat → Nat} {i : Int32} {w : Int32} {v : Int32} : zStI g a mb y_Sx_set b_Sx_set 6 3 y_Mo_set b_Mo_set 6 2 [.int i, .int w, .int v] := by
  intro w hw
  obtain ⟨f, P, K, T, tp, ss, es, kp, x0, x3, x4, x5, x8, x9, x10, x11, x12, x13, x17, x18, x19, rfl, hR, hP, hG, hK, hz, hb, hs⟩ := hw
  have h7 := hP.1
  have hx := m_Sx_set (g := g) (a := a) (f := f) (P := P) (K := K) (T := T) (tp := tp) (ss := ss) (es := es) (kp := kp) (i := i) (w := w) (v := v) hP
  have hm := m_Mo_set (g := g) (a := mb) (x0 := x0) (x1 := f) (x3 := x3) (x4 := x4) (x5 := x5) (x6 := tp.1) (x7 := tp.2.1) (x8 := x8) (x9 := x9) (x10 := x10) (x11 := x11) (x12 := x12) (x13 := x13) (x17 := x17) (x18 := x18) (x19 := x19) (x20 := kp) (x14 := q_b14 ss) (x15 := q_b15 ss) (x16 := q_b16 ss) (P := P) (i := i) (w := w) (v := v) hR hP hG
  have ht := th_set f hR hP hG i w v
  exact ⟨(p_set f P i w v).1, xW g a f P K T tp ss es kp, xW g a ((p_set f P i w v).2.1) ((p_set f P i w v).2.2) K T tp ss es kp, mV g mb x0 f 127 x3 x4 x5 tp.1 tp.2.1 x8 x9 x10 x11 x12 x13 (q_b14 ss) (q_b15 ss) (q_b16 ss) x17 x18 x19 kp, mV g mb (if (q_ix i P.2.1 && q_may w v) = true then upd x0 (3 + 5 * i.toNatClampNeg + w.toNatClampNeg) v else x0) ((p_set f P i w v).2.1) 127 x3 x4 x5 tp.1 tp.2.1 x8 x9 x10 x11 x12 x13 (q_b14 ss) (q_b15 ss) (q_b16 ss) x17 x18 x19 kp, _, _, rfl, rfl, rfl, hx, hm, ⟨(p_set f P i w v).2.1, (p_set f P i w v).2.2, K, T, tp, ss, es, kp, if (q_ix i P.2.1 && q_may w v) = true then upd x0 (3 + 5 * i.toNatClampNeg + w.toNatClampNeg) v else x0, x3, x4, x5, x8, x9, x10, x11, x12, x13, x17, x18, x19, rfl, ht.1, ht.2.1, ht.2.2, hK, hz, hb, hs⟩⟩
set_option maxRecDepth 100000 in
theorem s_done {g : Nat → Nat → Nat} {a mb : Nat → Nat} {i : Int32} : zStI g a mb y_Sx_done b_Sx_done 3 2 y_Mo_done b_Mo_done 4 2 [.int i] := by
  intro w hw
  obtain ⟨f, P, K, T, tp, ss, es, kp, x0, x3, x4, x5, x8, x9, x10, x11, x12, x13, x17, x18, x19, rfl, hR, hP, hG, hK, hz, hb, hs⟩ := hw
  have h7 := hP.1
  have hx := m_Sx_done (g := g) (a := a) (f := f) (P := P) (K := K) (T := T) (tp := tp) (ss := ss) (es := es) (kp := kp) (i := i) hP
  have hm := m_Mo_done (g := g) (a := mb) (x0 := x0) (x1 := f) (x3 := x3) (x4 := x4) (x5 := x5) (x6 := tp.1) (x7 := tp.2.1) (x8 := x8) (x9 := x9) (x10 := x10) (x11 := x11) (x12 := x12) (x13 := x13) (x17 := x17) (x18 := x18) (x19 := x19) (x20 := kp) (x14 := q_b14 ss) (x15 := q_b15 ss) (x16 := q_b16 ss) (P := P) (i := i) hR hP hG
  have ht := th_done f hR hP hG i
  exact ⟨(p_done f P i).1, xW g a f P K T tp ss es kp, xW g a ((p_done f P i).2.1) ((p_done f P i).2.2) K T tp ss es kp, mV g mb x0 f 127 x3 x4 x5 tp.1 tp.2.1 x8 x9 x10 x11 x12 x13 (q_b14 ss) (q_b15 ss) (q_b16 ss) x17 x18 x19 kp, mV g mb (if q_ix i P.2.2.1 = true then upd (q_s4 x0 (38 + 4 * i.toNatClampNeg) (38 + 4 * (P.2.2.1 - 1))) 2 (nI (P.2.2.1 - 1)) else x0) ((p_done f P i).2.1) 127 x3 x4 x5 tp.1 tp.2.1 x8 x9 x10 x11 x12 x13 (q_b14 ss) (q_b15 ss) (q_b16 ss) x17 x18 x19 kp, _, _, rfl, rfl, rfl, hx, hm, ⟨(p_done f P i).2.1, (p_done f P i).2.2, K, T, tp, ss, es, kp, if q_ix i P.2.2.1 = true then upd (q_s4 x0 (38 + 4 * i.toNatClampNeg) (38 + 4 * (P.2.2.1 - 1))) 2 (nI (P.2.2.1 - 1)) else x0, x3, x4, x5, x8, x9, x10, x11, x12, x13, x17, x18, x19, rfl, ht.1, ht.2.1, ht.2.2, hK, hz, hb, hs⟩⟩
set_option maxRecDepth 100000 in
theorem s_hours {g : Nat → Nat → Nat} {a mb : Nat → Nat} {n : Int32} : zStI g a mb y_Sx_hours b_Sx_hours 2 5 y_Mo_hours b_Mo_hours 3 8 [.int n] := by
  intro w hw
  obtain ⟨f, P, K, T, tp, ss, es, kp, x0, x3, x4, x5, x8, x9, x10, x11, x12, x13, x17, x18, x19, rfl, hR, hP, hG, hK, hz, hb, hs⟩ := hw
  have h7 := hP.1
  have hx := m_Sx_hours (g := g) (a := a) (f := f) (P := P) (K := K) (T := T) (tp := tp) (ss := ss) (es := es) (kp := kp) (n := n) hP
  have hm := m_Mo_hours (g := g) (a := mb) (x0 := x0) (x1 := f) (x3 := x3) (x4 := x4) (x5 := x5) (x6 := tp.1) (x7 := tp.2.1) (x8 := x8) (x9 := x9) (x10 := x10) (x11 := x11) (x12 := x12) (x13 := x13) (x17 := x17) (x18 := x18) (x19 := x19) (x20 := kp) (x14 := q_b14 ss) (x15 := q_b15 ss) (x16 := q_b16 ss) (P := P) (n := n) hR hP hG
  have ht := th_hours f hR hP hG n
  exact ⟨(p_hours f P n).1, xW g a f P K T tp ss es kp, xW g a ((p_hours f P n).2.1) ((p_hours f P n).2.2) K T tp ss es kp, mV g mb x0 f 127 x3 x4 x5 tp.1 tp.2.1 x8 x9 x10 x11 x12 x13 (q_b14 ss) (q_b15 ss) (q_b16 ss) x17 x18 x19 kp, mV g mb (if (q_in n 1 60 && decide (P.1 + n ≤ 9999)) = true then upd (q_hrN x0 P.2.1 n.toNatClampNeg) 0 (P.1 + n) else x0) ((p_hours f P n).2.1) 127 x3 x4 x5 tp.1 tp.2.1 x8 x9 x10 x11 x12 x13 (q_b14 ss) (q_b15 ss) (q_b16 ss) x17 x18 x19 kp, _, _, rfl, rfl, rfl, hx, hm, ⟨(p_hours f P n).2.1, (p_hours f P n).2.2, K, T, tp, ss, es, kp, if (q_in n 1 60 && decide (P.1 + n ≤ 9999)) = true then upd (q_hrN x0 P.2.1 n.toNatClampNeg) 0 (P.1 + n) else x0, x3, x4, x5, x8, x9, x10, x11, x12, x13, x17, x18, x19, rfl, ht.1, ht.2.1, ht.2.2, hK, hz, hb, hs⟩⟩
set_option maxRecDepth 100000 in
theorem s_now {g : Nat → Nat → Nat} {a mb : Nat → Nat} {w : Int32} : zStI g a mb y_Sx_now b_Sx_now 3 5 y_Mo_now b_Mo_now 2 8 [.int w] := by
  intro w hw
  obtain ⟨f, P, K, T, tp, ss, es, kp, x0, x3, x4, x5, x8, x9, x10, x11, x12, x13, x17, x18, x19, rfl, hR, hP, hG, hK, hz, hb, hs⟩ := hw
  have h7 := hP.1
  have hx := m_Sx_now (g := g) (a := a) (f := f) (P := P) (K := K) (T := T) (tp := tp) (ss := ss) (es := es) (kp := kp) (w := w) hP
  have hm := m_Mo_now (g := g) (a := mb) (x0 := x0) (x1 := f) (x3 := x3) (x4 := x4) (x5 := x5) (x6 := tp.1) (x7 := tp.2.1) (x8 := x8) (x9 := x9) (x10 := x10) (x11 := x11) (x12 := x12) (x13 := x13) (x17 := x17) (x18 := x18) (x19 := x19) (x20 := kp) (x14 := q_b14 ss) (x15 := q_b15 ss) (x16 := q_b16 ss) (P := P) (w := w) hR hP hG
  rw [p_now_m f hG w] at hm
  exact ⟨(p_now f P w).1, xW g a f P K T tp ss es kp, xW g a ((p_now f P w).2) P K T tp ss es kp, mV g mb x0 f 127 x3 x4 x5 tp.1 tp.2.1 x8 x9 x10 x11 x12 x13 (q_b14 ss) (q_b15 ss) (q_b16 ss) x17 x18 x19 kp, mV g mb x0 ((p_now f P w).2) 127 x3 x4 x5 tp.1 tp.2.1 x8 x9 x10 x11 x12 x13 (q_b14 ss) (q_b15 ss) (q_b16 ss) x17 x18 x19 kp, _, _, rfl, rfl, rfl, hx, hm, ⟨(p_now f P w).2, P, K, T, tp, ss, es, kp, x0, x3, x4, x5, x8, x9, x10, x11, x12, x13, x17, x18, x19, rfl, hR, hP, hG, hK, hz, hb, hs⟩⟩
set_option maxRecDepth 100000 in
theorem s_on {g : Nat → Nat → Nat} {a mb : Nat → Nat} {n : Int32} : zStI g a mb y_Sx_on b_Sx_on 2 4 y_Mo_on b_Mo_on 3 8 [.int n] := by
  intro w hw
  obtain ⟨f, P, K, T, tp, ss, es, kp, x0, x3, x4, x5, x8, x9, x10, x11, x12, x13, x17, x18, x19, rfl, hR, hP, hG, hK, hz, hb, hs⟩ := hw
  have h7 := hP.1
  have hx := m_Sx_on (g := g) (a := a) (f := f) (P := P) (K := K) (T := T) (tp := tp) (ss := ss) (es := es) (kp := kp) (n := n) hP
  have hm := m_Mo_on (g := g) (a := mb) (x0 := x0) (x1 := f) (x3 := x3) (x4 := x4) (x5 := x5) (x6 := tp.1) (x7 := tp.2.1) (x8 := x8) (x9 := x9) (x10 := x10) (x11 := x11) (x12 := x12) (x13 := x13) (x17 := x17) (x18 := x18) (x19 := x19) (x20 := kp) (x14 := q_b14 ss) (x15 := q_b15 ss) (x16 := q_b16 ss) (P := P) (n := n) hR hP hG
  rw [(p_on_T f P P T n).1, (p_on_T f P P T n).2] at hm
  exact ⟨(p_on f P T n).1, xW g a f P K T tp ss es kp, xW g a ((p_on f P T n).2.1) P K ((p_on f P T n).2.2) tp ss es kp, mV g mb x0 f 127 x3 x4 x5 tp.1 tp.2.1 x8 x9 x10 x11 x12 x13 (q_b14 ss) (q_b15 ss) (q_b16 ss) x17 x18 x19 kp, mV g mb x0 ((p_on f P T n).2.1) 127 (if q_in n 0 60 = true then x0 else x3) x4 x5 tp.1 tp.2.1 x8 x9 x10 x11 x12 x13 (q_b14 ss) (q_b15 ss) (q_b16 ss) x17 x18 x19 kp, _, _, rfl, rfl, rfl, hx, hm, ⟨(p_on f P T n).2.1, P, K, (p_on f P T n).2.2, tp, ss, es, kp, x0, if q_in n 0 60 = true then x0 else x3, x4, x5, x8, x9, x10, x11, x12, x13, x17, x18, x19, rfl, hR, hP, hG, hK, hz, hb, hs⟩⟩
set_option maxRecDepth 100000 in
theorem s_when {g : Nat → Nat → Nat} {a mb : Nat → Nat} {i : Int32} : zStI g a mb y_Sx_when b_Sx_when 3 4 y_Mo_when b_Mo_when 3 8 [.int i] := by
  intro w hw
  obtain ⟨f, P, K, T, tp, ss, es, kp, x0, x3, x4, x5, x8, x9, x10, x11, x12, x13, x17, x18, x19, rfl, hR, hP, hG, hK, hz, hb, hs⟩ := hw
  have h7 := hP.1
  have hx := m_Sx_when (g := g) (a := a) (f := f) (P := P) (K := K) (T := T) (tp := tp) (ss := ss) (es := es) (kp := kp) (i := i) hP
  have hm := m_Mo_when (g := g) (a := mb) (x0 := x0) (x1 := f) (x3 := x3) (x4 := x4) (x5 := x5) (x6 := tp.1) (x7 := tp.2.1) (x8 := x8) (x9 := x9) (x10 := x10) (x11 := x11) (x12 := x12) (x13 := x13) (x17 := x17) (x18 := x18) (x19 := x19) (x20 := kp) (x14 := q_b14 ss) (x15 := q_b15 ss) (x16 := q_b16 ss) (P := P) (i := i) hR hP hG
  rw [(p_when_T f P P T i).1, (p_when_T f P P T i).2] at hm
  exact ⟨(p_when f P T i).1, xW g a f P K T tp ss es kp, xW g a ((p_when f P T i).2.1) P K ((p_when f P T i).2.2) tp ss es kp, mV g mb x0 f 127 x3 x4 x5 tp.1 tp.2.1 x8 x9 x10 x11 x12 x13 (q_b14 ss) (q_b15 ss) (q_b16 ss) x17 x18 x19 kp, mV g mb x0 ((p_when f P T i).2.1) 127 (if q_ix i P.2.2.1 = true then x0 else x3) x4 x5 tp.1 tp.2.1 x8 x9 x10 x11 x12 x13 (q_b14 ss) (q_b15 ss) (q_b16 ss) x17 x18 x19 kp, _, _, rfl, rfl, rfl, hx, hm, ⟨(p_when f P T i).2.1, P, K, (p_when f P T i).2.2, tp, ss, es, kp, x0, if q_ix i P.2.2.1 = true then x0 else x3, x4, x5, x8, x9, x10, x11, x12, x13, x17, x18, x19, rfl, hR, hP, hG, hK, hz, hb, hs⟩⟩
set_option maxRecDepth 100000 in
theorem s_stand {g : Nat → Nat → Nat} {a mb : Nat → Nat} {i : Int32} : zStI g a mb y_Sx_stand b_Sx_stand 2 6 y_Mo_stand b_Mo_stand 7 8 [.int i] := by
  intro w hw
  obtain ⟨f, P, K, T, tp, ss, es, kp, x0, x3, x4, x5, x8, x9, x10, x11, x12, x13, x17, x18, x19, rfl, hR, hP, hG, hK, hz, hb, hs⟩ := hw
  have h7 := hP.1
  have hx := m_Sx_stand (g := g) (a := a) (f := f) (P := P) (K := K) (T := T) (tp := tp) (ss := ss) (es := es) (kp := kp) (i := i) hP
  have hm := m_Mo_stand (g := g) (a := mb) (x0 := x0) (x1 := f) (x3 := x3) (x4 := x4) (x5 := x5) (x6 := tp.1) (x7 := tp.2.1) (x8 := x8) (x9 := x9) (x10 := x10) (x11 := x11) (x12 := x12) (x13 := x13) (x17 := x17) (x18 := x18) (x19 := x19) (x20 := kp) (x14 := q_b14 ss) (x15 := q_b15 ss) (x16 := q_b16 ss) (P := P) (i := i) hR hP hG
  rw [(p_stand_T f P P T i).1, (p_stand_T f P P T i).2] at hm
  exact ⟨(p_stand f P T i).1, xW g a f P K T tp ss es kp, xW g a ((p_stand f P T i).2.1) P K ((p_stand f P T i).2.2) tp ss es kp, mV g mb x0 f 127 x3 x4 x5 tp.1 tp.2.1 x8 x9 x10 x11 x12 x13 (q_b14 ss) (q_b15 ss) (q_b16 ss) x17 x18 x19 kp, mV g mb x0 ((p_stand f P T i).2.1) 127 x3 x4 x5 tp.1 tp.2.1 x8 x9 x10 x11 x12 x13 (q_b14 ss) (q_b15 ss) (q_b16 ss) x17 x18 x19 kp, _, _, rfl, rfl, rfl, hx, hm, ⟨(p_stand f P T i).2.1, P, K, (p_stand f P T i).2.2, tp, ss, es, kp, x0, x3, x4, x5, x8, x9, x10, x11, x12, x13, x17, x18, x19, rfl, hR, hP, hG, hK, hz, hb, hs⟩⟩
set_option maxRecDepth 100000 in
theorem s_kind {g : Nat → Nat → Nat} {a mb : Nat → Nat} {i : Int32} : zStI g a mb y_Sx_kind b_Sx_kind 2 6 y_Mo_kind b_Mo_kind 7 8 [.int i] := by
  intro w hw
  obtain ⟨f, P, K, T, tp, ss, es, kp, x0, x3, x4, x5, x8, x9, x10, x11, x12, x13, x17, x18, x19, rfl, hR, hP, hG, hK, hz, hb, hs⟩ := hw
  have h7 := hP.1
  have hx := m_Sx_kind (g := g) (a := a) (f := f) (P := P) (K := K) (T := T) (tp := tp) (ss := ss) (es := es) (kp := kp) (i := i) hP
  have hm := m_Mo_kind (g := g) (a := mb) (x0 := x0) (x1 := f) (x3 := x3) (x4 := x4) (x5 := x5) (x6 := tp.1) (x7 := tp.2.1) (x8 := x8) (x9 := x9) (x10 := x10) (x11 := x11) (x12 := x12) (x13 := x13) (x17 := x17) (x18 := x18) (x19 := x19) (x20 := kp) (x14 := q_b14 ss) (x15 := q_b15 ss) (x16 := q_b16 ss) (P := P) (i := i) hR hP hG
  rw [(p_kind_T f P P T i).1, (p_kind_T f P P T i).2] at hm
  exact ⟨(p_kind f P T i).1, xW g a f P K T tp ss es kp, xW g a ((p_kind f P T i).2.1) P K ((p_kind f P T i).2.2) tp ss es kp, mV g mb x0 f 127 x3 x4 x5 tp.1 tp.2.1 x8 x9 x10 x11 x12 x13 (q_b14 ss) (q_b15 ss) (q_b16 ss) x17 x18 x19 kp, mV g mb x0 ((p_kind f P T i).2.1) 127 x3 x4 x5 tp.1 tp.2.1 x8 x9 x10 x11 x12 x13 (q_b14 ss) (q_b15 ss) (q_b16 ss) x17 x18 x19 kp, _, _, rfl, rfl, rfl, hx, hm, ⟨(p_kind f P T i).2.1, P, K, (p_kind f P T i).2.2, tp, ss, es, kp, x0, x3, x4, x5, x8, x9, x10, x11, x12, x13, x17, x18, x19, rfl, hR, hP, hG, hK, hz, hb, hs⟩⟩
set_option maxRecDepth 100000 in
theorem s_skill {g : Nat → Nat → Nat} {a mb : Nat → Nat} {i : Int32} {u : Int32} : zStI g a mb y_Sx_skill b_Sx_skill 4 4 y_Mo_skill b_Mo_skill 6 7 [.int i, .int u] := by
  intro w hw
  obtain ⟨f, P, K, T, tp, ss, es, kp, x0, x3, x4, x5, x8, x9, x10, x11, x12, x13, x17, x18, x19, rfl, hR, hP, hG, hK, hz, hb, hs⟩ := hw
  have h7 := hP.1
  have hx := m_Sx_skill (g := g) (a := a) (f := f) (P := P) (K := K) (T := T) (tp := tp) (ss := ss) (es := es) (kp := kp) (i := i) (u := u) hP
  have hm := m_Mo_skill (g := g) (a := mb) (x0 := x0) (x1 := f) (x3 := x3) (x4 := x4) (x5 := x5) (x6 := tp.1) (x7 := tp.2.1) (x8 := x8) (x9 := x9) (x10 := x10) (x11 := x11) (x12 := x12) (x13 := x13) (x17 := x17) (x18 := x18) (x19 := x19) (x20 := kp) (x14 := q_b14 ss) (x15 := q_b15 ss) (x16 := q_b16 ss) (P := P) (i := i) (u := u) hR hP hG
  rw [(p_skill_T f P P T i u).1, (p_skill_T f P P T i u).2] at hm
  exact ⟨(p_skill f P T i u).1, xW g a f P K T tp ss es kp, xW g a ((p_skill f P T i u).2.1) P K ((p_skill f P T i u).2.2) tp ss es kp, mV g mb x0 f 127 x3 x4 x5 tp.1 tp.2.1 x8 x9 x10 x11 x12 x13 (q_b14 ss) (q_b15 ss) (q_b16 ss) x17 x18 x19 kp, mV g mb x0 ((p_skill f P T i u).2.1) 127 x3 x4 x5 tp.1 tp.2.1 x8 x9 x10 x11 x12 x13 (q_b14 ss) (q_b15 ss) (q_b16 ss) x17 x18 x19 kp, _, _, rfl, rfl, rfl, hx, hm, ⟨(p_skill f P T i u).2.1, P, K, (p_skill f P T i u).2.2, tp, ss, es, kp, x0, x3, x4, x5, x8, x9, x10, x11, x12, x13, x17, x18, x19, rfl, hR, hP, hG, hK, hz, hb, hs⟩⟩
set_option maxRecDepth 100000 in
theorem s_best {g : Nat → Nat → Nat} {a mb : Nat → Nat}  : zStI g a mb y_Sx_best b_Sx_best 5 5 y_Mo_best b_Mo_best 5 8 [] := by
  intro w hw
  obtain ⟨f, P, K, T, tp, ss, es, kp, x0, x3, x4, x5, x8, x9, x10, x11, x12, x13, x17, x18, x19, rfl, hR, hP, hG, hK, hz, hb, hs⟩ := hw
  have h7 := hP.1
  have hx := m_Sx_best (g := g) (a := a) (f := f) (P := P) (K := K) (T := T) (tp := tp) (ss := ss) (es := es) (kp := kp)  hP
  have hm := m_Mo_best (g := g) (a := mb) (x0 := x0) (x1 := f) (x3 := x3) (x4 := x4) (x5 := x5) (x6 := tp.1) (x7 := tp.2.1) (x8 := x8) (x9 := x9) (x10 := x10) (x11 := x11) (x12 := x12) (x13 := x13) (x17 := x17) (x18 := x18) (x19 := x19) (x20 := kp) (x14 := q_b14 ss) (x15 := q_b15 ss) (x16 := q_b16 ss) (P := P) hR hP hG
  exact ⟨p_best P, xW g a f P K T tp ss es kp, xW g a f P K (q_it P 61) tp ss es kp, mV g mb x0 f 127 x3 x4 x5 tp.1 tp.2.1 x8 x9 x10 x11 x12 x13 (q_b14 ss) (q_b15 ss) (q_b16 ss) x17 x18 x19 kp, mV g mb x0 f 127 x0 x4 x5 tp.1 tp.2.1 x8 x9 x10 x11 x12 x13 (q_b14 ss) (q_b15 ss) (q_b16 ss) x17 x18 x19 kp, _, _, rfl, rfl, rfl, hx, hm, ⟨f, P, K, q_it P 61, tp, ss, es, kp, x0, x0, x4, x5, x8, x9, x10, x11, x12, x13, x17, x18, x19, rfl, hR, hP, hG, hK, hz, hb, hs⟩⟩
set_option maxRecDepth 100000 in
theorem s_awake {g : Nat → Nat → Nat} {a mb : Nat → Nat}  : zStI g a mb y_Sx_awake b_Sx_awake 1 6 y_Mo_awake b_Mo_awake 1 10 [] := by
  intro w hw
  obtain ⟨f, P, K, T, tp, ss, es, kp, x0, x3, x4, x5, x8, x9, x10, x11, x12, x13, x17, x18, x19, rfl, hR, hP, hG, hK, hz, hb, hs⟩ := hw
  have h7 := hP.1
  have hx := m_Sx_awake (g := g) (a := a) (f := f) (P := P) (K := K) (T := T) (tp := tp) (ss := ss) (es := es) (kp := kp)  hP
  have hm := m_Mo_awake (g := g) (a := mb) (x0 := x0) (x1 := f) (x3 := x3) (x4 := x4) (x5 := x5) (x6 := tp.1) (x7 := tp.2.1) (x8 := x8) (x9 := x9) (x10 := x10) (x11 := x11) (x12 := x12) (x13 := x13) (x17 := x17) (x18 := x18) (x19 := x19) (x20 := kp) (x14 := q_b14 ss) (x15 := q_b15 ss) (x16 := q_b16 ss) (P := P) hR hP hG
  rw [q_best_m hP.1] at hm
  exact ⟨nI (q_best P), xW g a f P K T tp ss es kp, xW g a f P K T tp ss es kp, mV g mb x0 f 127 x3 x4 x5 tp.1 tp.2.1 x8 x9 x10 x11 x12 x13 (q_b14 ss) (q_b15 ss) (q_b16 ss) x17 x18 x19 kp, mV g mb x0 f 127 x3 x4 x5 tp.1 tp.2.1 x8 x9 x10 x11 x12 x13 (q_b14 ss) (q_b15 ss) (q_b16 ss) x17 x18 x19 kp, _, _, rfl, rfl, rfl, hx, hm, ⟨f, P, K, T, tp, ss, es, kp, x0, x3, x4, x5, x8, x9, x10, x11, x12, x13, x17, x18, x19, rfl, hR, hP, hG, hK, hz, hb, hs⟩⟩
set_option maxRecDepth 100000 in
theorem s_most {g : Nat → Nat → Nat} {a mb : Nat → Nat}  : zStI g a mb y_Sx_most b_Sx_most 1 6 y_Mo_most b_Mo_most 1 10 [] := by
  intro w hw
  obtain ⟨f, P, K, T, tp, ss, es, kp, x0, x3, x4, x5, x8, x9, x10, x11, x12, x13, x17, x18, x19, rfl, hR, hP, hG, hK, hz, hb, hs⟩ := hw
  have h7 := hP.1
  have hx := m_Sx_most (g := g) (a := a) (f := f) (P := P) (K := K) (T := T) (tp := tp) (ss := ss) (es := es) (kp := kp)  hP
  have hm := m_Mo_most (g := g) (a := mb) (x0 := x0) (x1 := f) (x3 := x3) (x4 := x4) (x5 := x5) (x6 := tp.1) (x7 := tp.2.1) (x8 := x8) (x9 := x9) (x10 := x10) (x11 := x11) (x12 := x12) (x13 := x13) (x17 := x17) (x18 := x18) (x19 := x19) (x20 := kp) (x14 := q_b14 ss) (x15 := q_b15 ss) (x16 := q_b16 ss) (P := P) hR hP hG
  rw [q_best_m hP.1, show q_best P &&& q_awk P = q_best P from q_bs_sub _ _ _] at hm
  exact ⟨q_earn P (q_best P), xW g a f P K T tp ss es kp, xW g a f P K T tp ss es kp, mV g mb x0 f 127 x3 x4 x5 tp.1 tp.2.1 x8 x9 x10 x11 x12 x13 (q_b14 ss) (q_b15 ss) (q_b16 ss) x17 x18 x19 kp, mV g mb x0 f 127 x3 x4 x5 tp.1 tp.2.1 x8 x9 x10 x11 x12 x13 (q_b14 ss) (q_b15 ss) (q_b16 ss) x17 x18 x19 kp, _, _, rfl, rfl, rfl, hx, hm, ⟨f, P, K, T, tp, ss, es, kp, x0, x3, x4, x5, x8, x9, x10, x11, x12, x13, x17, x18, x19, rfl, hR, hP, hG, hK, hz, hb, hs⟩⟩
set_option maxRecDepth 100000 in
theorem s_spoils {g : Nat → Nat → Nat} {a mb : Nat → Nat}  : zStI g a mb y_Sx_spoils b_Sx_spoils 5 5 y_Mo_spoils b_Mo_spoils 4 9 [] := by
  intro w hw
  obtain ⟨f, P, K, T, tp, ss, es, kp, x0, x3, x4, x5, x8, x9, x10, x11, x12, x13, x17, x18, x19, rfl, hR, hP, hG, hK, hz, hb, hs⟩ := hw
  have h7 := hP.1
  have hx := m_Sx_spoils (g := g) (a := a) (f := f) (P := P) (K := K) (T := T) (tp := tp) (ss := ss) (es := es) (kp := kp)  hP
  have hm := m_Mo_spoils (g := g) (a := mb) (x0 := x0) (x1 := f) (x3 := x3) (x4 := x4) (x5 := x5) (x6 := tp.1) (x7 := tp.2.1) (x8 := x8) (x9 := x9) (x10 := x10) (x11 := x11) (x12 := x12) (x13 := x13) (x17 := x17) (x18 := x18) (x19 := x19) (x20 := kp) (x14 := q_b14 ss) (x15 := q_b15 ss) (x16 := q_b16 ss) (P := P) hR hP hG
  rw [p_spoils_m hP.1] at hm
  exact ⟨p_spoils P, xW g a f P K T tp ss es kp, xW g a f P K T tp ss es kp, mV g mb x0 f 127 x3 x4 x5 tp.1 tp.2.1 x8 x9 x10 x11 x12 x13 (q_b14 ss) (q_b15 ss) (q_b16 ss) x17 x18 x19 kp, mV g mb x0 f 127 x3 x4 x5 tp.1 tp.2.1 x8 x9 x10 x11 x12 x13 (q_b14 ss) (q_b15 ss) (q_b16 ss) x17 x18 x19 kp, _, _, rfl, rfl, rfl, hx, hm, ⟨f, P, K, T, tp, ss, es, kp, x0, x3, x4, x5, x8, x9, x10, x11, x12, x13, x17, x18, x19, rfl, hR, hP, hG, hK, hz, hb, hs⟩⟩
set_option maxRecDepth 100000 in
theorem s_learn {g : Nat → Nat → Nat} {a mb : Nat → Nat}  : zStI g a mb y_Sx_learn b_Sx_learn 7 5 y_Mo_learn b_Mo_learn 6 8 [] := by
  intro w hw
  obtain ⟨f, P, K, T, tp, ss, es, kp, x0, x3, x4, x5, x8, x9, x10, x11, x12, x13, x17, x18, x19, rfl, hR, hP, hG, hK, hz, hb, hs⟩ := hw
  have h7 := hP.1
  have hx := m_Sx_learn (g := g) (a := a) (f := f) (P := P) (K := K) (T := T) (tp := tp) (ss := ss) (es := es) (kp := kp)  hP
  have hm := m_Mo_learn (g := g) (a := mb) (x0 := x0) (x1 := f) (x3 := x3) (x4 := x4) (x5 := x5) (x6 := tp.1) (x7 := tp.2.1) (x8 := x8) (x9 := x9) (x10 := x10) (x11 := x11) (x12 := x12) (x13 := x13) (x17 := x17) (x18 := x18) (x19 := x19) (x20 := kp) (x14 := q_b14 ss) (x15 := q_b15 ss) (x16 := q_b16 ss) (P := P) hR hP hG
  exact ⟨(p_learn f P).1, xW g a f P K T tp ss es kp, xW g a ((p_learn f P).2) P K P tp ss es kp, mV g mb x0 f 127 x3 x4 x5 tp.1 tp.2.1 x8 x9 x10 x11 x12 x13 (q_b14 ss) (q_b15 ss) (q_b16 ss) x17 x18 x19 kp, mV g mb x0 ((p_learn f P).2) 127 x3 x4 x5 tp.1 tp.2.1 x8 x9 x10 x11 x12 x13 (q_b14 ss) (q_b15 ss) (q_b16 ss) x17 x18 x19 kp, _, _, rfl, rfl, rfl, hx, hm, ⟨(p_learn f P).2, P, K, P, tp, ss, es, kp, x0, x3, x4, x5, x8, x9, x10, x11, x12, x13, x17, x18, x19, rfl, hR, hP, hG, hK, hz, hb, hs⟩⟩
set_option maxRecDepth 100000 in
theorem s_missed {g : Nat → Nat → Nat} {a mb : Nat → Nat} {i : Int32} : zStI g a mb y_Sx_missed b_Sx_missed 3 5 y_Mo_missed b_Mo_missed 2 9 [.int i] := by
  intro w hw
  obtain ⟨f, P, K, T, tp, ss, es, kp, x0, x3, x4, x5, x8, x9, x10, x11, x12, x13, x17, x18, x19, rfl, hR, hP, hG, hK, hz, hb, hs⟩ := hw
  have h7 := hP.1
  have hx := m_Sx_missed (g := g) (a := a) (f := f) (P := P) (K := K) (T := T) (tp := tp) (ss := ss) (es := es) (kp := kp) (i := i) hP
  have hm := m_Mo_missed (g := g) (a := mb) (x0 := x0) (x1 := f) (x3 := x3) (x4 := x4) (x5 := x5) (x6 := tp.1) (x7 := tp.2.1) (x8 := x8) (x9 := x9) (x10 := x10) (x11 := x11) (x12 := x12) (x13 := x13) (x17 := x17) (x18 := x18) (x19 := x19) (x20 := kp) (x14 := q_b14 ss) (x15 := q_b15 ss) (x16 := q_b16 ss) (P := P) (i := i) hR hP hG
  rw [p_missed_m f hP.1 i] at hm
  exact ⟨(p_missed f P i).1, xW g a f P K T tp ss es kp, xW g a ((p_missed f P i).2) P K T tp ss es kp, mV g mb x0 f 127 x3 x4 x5 tp.1 tp.2.1 x8 x9 x10 x11 x12 x13 (q_b14 ss) (q_b15 ss) (q_b16 ss) x17 x18 x19 kp, mV g mb x0 ((p_missed f P i).2) 127 x3 x4 x5 tp.1 tp.2.1 x8 x9 x10 x11 x12 x13 (q_b14 ss) (q_b15 ss) (q_b16 ss) x17 x18 x19 kp, _, _, rfl, rfl, rfl, hx, hm, ⟨(p_missed f P i).2, P, K, T, tp, ss, es, kp, x0, x3, x4, x5, x8, x9, x10, x11, x12, x13, x17, x18, x19, rfl, hR, hP, hG, hK, hz, hb, hs⟩⟩
set_option maxRecDepth 100000 in
theorem s_share {g : Nat → Nat → Nat} {a mb : Nat → Nat} {i : Int32} : zStL g a mb y_Sx_share b_Sx_share 2 6 y_Mo_share b_Mo_share 2 10 [.int i] := by
  intro w hw
  obtain ⟨f, P, K, T, tp, ss, es, kp, x0, x3, x4, x5, x8, x9, x10, x11, x12, x13, x17, x18, x19, rfl, hR, hP, hG, hK, hz, hb, hs⟩ := hw
  have h7 := hP.1
  have hx := m_Sx_share (g := g) (a := a) (f := f) (P := P) (K := K) (T := T) (tp := tp) (ss := ss) (es := es) (kp := kp) (i := i) hP
  have hm := m_Mo_share (g := g) (a := mb) (x0 := x0) (x1 := f) (x3 := x3) (x4 := x4) (x5 := x5) (x6 := tp.1) (x7 := tp.2.1) (x8 := x8) (x9 := x9) (x10 := x10) (x11 := x11) (x12 := x12) (x13 := x13) (x17 := x17) (x18 := x18) (x19 := x19) (x20 := kp) (x14 := q_b14 ss) (x15 := q_b15 ss) (x16 := q_b16 ss) (P := P) (i := i) hR hP hG
  rw [(p_share_cg f hP.1 x4 es i).1, (p_share_cg f hP.1 x4 es i).2] at hm
  exact ⟨(p_share f P es i).1, xW g a f P K T tp ss es kp, xW g a ((p_share f P es i).2.1) P K T tp ss ((p_share f P es i).2.2) kp, mV g mb x0 f 127 x3 x4 x5 tp.1 tp.2.1 x8 x9 x10 x11 x12 x13 (q_b14 ss) (q_b15 ss) (q_b16 ss) x17 x18 x19 kp, mV g mb x0 ((p_share f P es i).2.1) 127 x3 ((p_share f P x4 i).2.2) (if q_ix i P.2.1 = true then q_shs P x4 x5 P.2.1 else x5) tp.1 tp.2.1 x8 x9 x10 x11 x12 x13 (q_b14 ss) (q_b15 ss) (q_b16 ss) x17 x18 x19 kp, _, _, rfl, rfl, rfl, hx, hm, ⟨(p_share f P es i).2.1, P, K, T, tp, ss, (p_share f P es i).2.2, kp, x0, x3, (p_share f P x4 i).2.2, if q_ix i P.2.1 = true then q_shs P x4 x5 P.2.1 else x5, x8, x9, x10, x11, x12, x13, x17, x18, x19, rfl, hR, hP, hG, hK, hz, hb, hs⟩⟩
set_option maxRecDepth 100000 in
theorem s_first {g : Nat → Nat → Nat} {a mb : Nat → Nat}  : zStI g a mb y_Sx_first b_Sx_first 3 6 y_Mo_first b_Mo_first 3 10 [] := by
  intro w hw
  obtain ⟨f, P, K, T, tp, ss, es, kp, x0, x3, x4, x5, x8, x9, x10, x11, x12, x13, x17, x18, x19, rfl, hR, hP, hG, hK, hz, hb, hs⟩ := hw
  have h7 := hP.1
  have hx := m_Sx_first (g := g) (a := a) (f := f) (P := P) (K := K) (T := T) (tp := tp) (ss := ss) (es := es) (kp := kp)  hP
  have hm := m_Mo_first (g := g) (a := mb) (x0 := x0) (x1 := f) (x3 := x3) (x4 := x4) (x5 := x5) (x6 := tp.1) (x7 := tp.2.1) (x8 := x8) (x9 := x9) (x10 := x10) (x11 := x11) (x12 := x12) (x13 := x13) (x17 := x17) (x18 := x18) (x19 := x19) (x20 := kp) (x14 := q_b14 ss) (x15 := q_b15 ss) (x16 := q_b16 ss) (P := P) hR hP hG
  rw [(p_first_cg f P x4 es).1, (p_first_cg f P x4 es).2] at hm
  exact ⟨(p_first f P es).1, xW g a f P K T tp ss es kp, xW g a ((p_first f P es).2.1) P K T tp ss ((p_first f P es).2.2) kp, mV g mb x0 f 127 x3 x4 x5 tp.1 tp.2.1 x8 x9 x10 x11 x12 x13 (q_b14 ss) (q_b15 ss) (q_b16 ss) x17 x18 x19 kp, mV g mb x0 ((p_first f P es).2.1) 127 x3 (q_wgA P x4) (q_shs P x4 x5 P.2.1) tp.1 tp.2.1 x8 x9 x10 x11 x12 x13 (q_b14 ss) (q_b15 ss) (q_b16 ss) x17 x18 x19 kp, _, _, rfl, rfl, rfl, hx, hm, ⟨(p_first f P es).2.1, P, K, T, tp, ss, (p_first f P es).2.2, kp, x0, x3, q_wgA P x4, q_shs P x4 x5 P.2.1, x8, x9, x10, x11, x12, x13, x17, x18, x19, rfl, hR, hP, hG, hK, hz, hb, hs⟩⟩
set_option maxRecDepth 100000 in
theorem s_sets {g : Nat → Nat → Nat} {a mb : Nat → Nat} {v : Int32} : zStI g a mb y_Sx_sets b_Sx_sets 6 5 y_Mo_sets b_Mo_sets 4 9 [.int v] := by
  intro w hw
  obtain ⟨f, P, K, T, tp, ss, es, kp, x0, x3, x4, x5, x8, x9, x10, x11, x12, x13, x17, x18, x19, rfl, hR, hP, hG, hK, hz, hb, hs⟩ := hw
  have h7 := hP.1
  have hx := m_Sx_sets (g := g) (a := a) (f := f) (P := P) (K := K) (T := T) (tp := tp) (ss := ss) (es := es) (kp := kp) (v := v) hP
  have hm := m_Mo_sets (g := g) (a := mb) (x0 := x0) (x1 := f) (x3 := x3) (x4 := x4) (x5 := x5) (x6 := tp.1) (x7 := tp.2.1) (x8 := x8) (x9 := x9) (x10 := x10) (x11 := x11) (x12 := x12) (x13 := x13) (x17 := x17) (x18 := x18) (x19 := x19) (x20 := kp) (x14 := q_b14 ss) (x15 := q_b15 ss) (x16 := q_b16 ss) (P := P) (i := v) hR hP hG
  exact ⟨(p_sets f P v).1, xW g a f P K T tp ss es kp, xW g a ((p_sets f P v).2) P K T tp ss es kp, mV g mb x0 f 127 x3 x4 x5 tp.1 tp.2.1 x8 x9 x10 x11 x12 x13 (q_b14 ss) (q_b15 ss) (q_b16 ss) x17 x18 x19 kp, mV g mb x0 ((p_sets f P v).2) 127 x3 x4 x5 tp.1 tp.2.1 x8 x9 x10 x11 x12 x13 (q_b14 ss) (q_b15 ss) (q_b16 ss) x17 x18 x19 kp, _, _, rfl, rfl, rfl, hx, hm, ⟨(p_sets f P v).2, P, K, T, tp, ss, es, kp, x0, x3, x4, x5, x8, x9, x10, x11, x12, x13, x17, x18, x19, rfl, hR, hP, hG, hK, hz, hb, hs⟩⟩
set_option maxRecDepth 100000 in
theorem s_feed {g : Nat → Nat → Nat} {a mb : Nat → Nat} {x : Int32} {n : Int32} : zStI g a mb y_Sx_feed b_Sx_feed 3 2 y_Mo_feed b_Mo_feed 4 1 [.int x, .int n] := by
  intro w hw
  obtain ⟨f, P, K, T, tp, ss, es, kp, x0, x3, x4, x5, x8, x9, x10, x11, x12, x13, x17, x18, x19, rfl, hR, hP, hG, hK, hz, hb, hs⟩ := hw
  have h7 := hP.1
  have hx := m_Sx_feed (g := g) (a := a) (f := f) (P := P) (K := K) (T := T) (tp := tp) (ss := ss) (es := es) (kp := kp) (x := x) (n := n) hz
  have hm := m_Mo_feed (g := g) (a := mb) (x0 := x0) (x1 := f) (x3 := x3) (x4 := x4) (x5 := x5) (x6 := tp.1) (x7 := tp.2.1) (x8 := x8) (x9 := x9) (x10 := x10) (x11 := x11) (x12 := x12) (x13 := x13) (x17 := x17) (x18 := x18) (x19 := x19) (x20 := kp) (x14 := q_b14 ss) (x15 := q_b15 ss) (x16 := q_b16 ss) (P := P) (tp := tp) (x := x) (n := n) rfl rfl hz
  have hft := th_feed f hz hb x n
  exact ⟨(p_feed f tp x n).1, xW g a f P K T tp ss es kp, xW g a ((p_feed f tp x n).2.1) P K T ((p_feed f tp x n).2.2) ss es kp, mV g mb x0 f 127 x3 x4 x5 tp.1 tp.2.1 x8 x9 x10 x11 x12 x13 (q_b14 ss) (q_b15 ss) (q_b16 ss) x17 x18 x19 kp, mV g mb x0 ((p_feed f tp x n).2.1) 127 x3 x4 x5 (((p_feed f tp x n).2.2).1) (((p_feed f tp x n).2.2).2.1) x8 x9 x10 x11 x12 x13 (q_b14 ss) (q_b15 ss) (q_b16 ss) x17 x18 x19 kp, _, _, rfl, rfl, rfl, hx, hm, ⟨(p_feed f tp x n).2.1, P, K, T, (p_feed f tp x n).2.2, ss, es, kp, x0, x3, x4, x5, x8, x9, x10, x11, x12, x13, x17, x18, x19, rfl, hR, hP, hG, hK, hft.1, hft.2, hs⟩⟩
set_option maxRecDepth 100000 in
theorem s_wipe {g : Nat → Nat → Nat} {a mb : Nat → Nat}  : zStI g a mb y_Sx_wipe b_Sx_wipe 1 1 y_Mo_wipe b_Mo_wipe 2 0 [] := by
  intro w hw
  obtain ⟨f, P, K, T, tp, ss, es, kp, x0, x3, x4, x5, x8, x9, x10, x11, x12, x13, x17, x18, x19, rfl, hR, hP, hG, hK, hz, hb, hs⟩ := hw
  have h7 := hP.1
  have hx := m_Sx_wipe (g := g) (a := a) (f := f) (P := P) (K := K) (T := T) (tp := tp) (ss := ss) (es := es) (kp := kp)
  have hm := m_Mo_wipe (g := g) (a := mb) (x0 := x0) (x1 := f) (x3 := x3) (x4 := x4) (x5 := x5) (x6 := tp.1) (x7 := tp.2.1) (x8 := x8) (x9 := x9) (x10 := x10) (x11 := x11) (x12 := x12) (x13 := x13) (x17 := x17) (x18 := x18) (x19 := x19) (x20 := kp) (x14 := q_b14 ss) (x15 := q_b15 ss) (x16 := q_b16 ss) (P := P) hR hP hG
  exact ⟨nI tp.2.1, xW g a f P K T tp ss es kp, xW g a f P K T (q_emp tp) ss es kp, mV g mb x0 f 127 x3 x4 x5 tp.1 tp.2.1 x8 x9 x10 x11 x12 x13 (q_b14 ss) (q_b15 ss) (q_b16 ss) x17 x18 x19 kp, mV g mb x0 f 127 x3 x4 x5 ((q_emp tp).1) ((q_emp tp).2.1) x8 x9 x10 x11 x12 x13 (q_b14 ss) (q_b15 ss) (q_b16 ss) x17 x18 x19 kp, _, _, rfl, rfl, rfl, hx, hm, ⟨f, P, K, T, q_emp tp, ss, es, kp, x0, x3, x4, x5, x8, x9, x10, x11, x12, x13, x17, x18, x19, rfl, hR, hP, hG, hK, Nat.zero_le _, fun i hi => absurd hi (Nat.not_lt_zero i), hs⟩⟩
set_option maxRecDepth 100000 in
theorem s_road {g : Nat → Nat → Nat} {a mb : Nat → Nat}  : zStI g a mb y_Sx_road b_Sx_road 2 9 y_Mo_road b_Mo_road 3 7 [] := by
  intro w hw
  obtain ⟨f, P, K, T, tp, ss, es, kp, x0, x3, x4, x5, x8, x9, x10, x11, x12, x13, x17, x18, x19, rfl, hR, hP, hG, hK, hz, hb, hs⟩ := hw
  have h7 := hP.1
  have hx := m_Sx_road (g := g) (a := a) (f := f) (P := P) (K := K) (T := T) (tp := tp) (ss := ss) (es := es) (kp := kp)  hP hz
  have hm := m_Mo_road (g := g) (a := mb) (x0 := x0) (x1 := f) (x3 := x3) (x4 := x4) (x5 := x5) (x6 := tp.1) (x7 := tp.2.1) (x8 := x8) (x9 := x9) (x10 := x10) (x11 := x11) (x12 := x12) (x13 := x13) (x17 := x17) (x18 := x18) (x19 := x19) (x20 := kp) (x14 := q_b14 ss) (x15 := q_b15 ss) (x16 := q_b16 ss) (P := P) (tp := tp) hR hP hG rfl rfl hz hb
  have hrt := th_road hP hG hz hb
  have ht := And.intro (zRo_rw (p_road P tp).2.1) hrt.2
  exact ⟨(p_road P tp).1, xW g a f P K T tp ss es kp, xW g a f ((p_road P tp).2.1) K ((p_road P tp).2.2.1) ((p_road P tp).2.2.2) ss es kp, mV g mb x0 f 127 x3 x4 x5 tp.1 tp.2.1 x8 x9 x10 x11 x12 x13 (q_b14 ss) (q_b15 ss) (q_b16 ss) x17 x18 x19 kp, mV g mb (q_rw (p_road P tp).2.1) f 127 x3 x4 x5 (((p_road P tp).2.2.2).1) (((p_road P tp).2.2.2).2.1) (q_tks (q_rd P tp).2.1) ((q_rd P tp).2.1.2.2.2.1) ((q_rd P tp).2.1.2.2.2.2.1) (q_tkw (q_rd P tp).2.1) (q_tkv (q_rd P tp).2.1) (decide (0 ≤ (q_rd P tp).1)) (q_b14 ss) (q_b15 ss) (q_b16 ss) x17 x18 x0 kp, _, _, rfl, rfl, rfl, hx, (by rw [hrt.1]; exact hm), ⟨f, (p_road P tp).2.1, K, (p_road P tp).2.2.1, (p_road P tp).2.2.2, ss, es, kp, q_rw (p_road P tp).2.1, x3, x4, x5, q_tks (q_rd P tp).2.1, (q_rd P tp).2.1.2.2.2.1, (q_rd P tp).2.1.2.2.2.2.1, q_tkw (q_rd P tp).2.1, q_tkv (q_rd P tp).2.1, decide (0 ≤ (q_rd P tp).1), x17, x18, x0, rfl, ht.1, ht.2.1, ht.2.2, hK, Nat.zero_le _, fun i hi => absurd hi (Nat.not_lt_zero i), hs⟩⟩
set_option maxRecDepth 100000 in
theorem s_sheet {g : Nat → Nat → Nat} {a mb : Nat → Nat} {s : Int32} {b : Int32} {n : Int32} : zStI g a mb y_Sx_sheet b_Sx_sheet 4 2 y_Mo_sheet b_Mo_sheet 5 2 [.int s, .int b, .int n] := by
  intro w hw
  obtain ⟨f, P, K, T, tp, ss, es, kp, x0, x3, x4, x5, x8, x9, x10, x11, x12, x13, x17, x18, x19, rfl, hR, hP, hG, hK, hz, hb, hs⟩ := hw
  have h7 := hP.1
  have hx := m_Sx_sheet (g := g) (a := a) (f := f) (P := P) (K := K) (T := T) (tp := tp) (ss := ss) (es := es) (kp := kp) (s := s) (b := b) (n := n)
  have hm := m_Mo_sheet (g := g) (a := mb) (x0 := x0) (x1 := f) (x3 := x3) (x4 := x4) (x5 := x5) (x6 := tp.1) (x7 := tp.2.1) (x8 := x8) (x9 := x9) (x10 := x10) (x11 := x11) (x12 := x12) (x13 := x13) (x17 := x17) (x18 := x18) (x19 := x19) (x20 := kp) (ss := ss) (s := s) (b := b) (n := n)
  exact ⟨(p_sheet f ss s b n).1, xW g a f P K T tp ss es kp, xW g a ((p_sheet f ss s b n).2.1) P K T tp ((p_sheet f ss s b n).2.2) es kp, mV g mb x0 f 127 x3 x4 x5 tp.1 tp.2.1 x8 x9 x10 x11 x12 x13 (q_b14 ss) (q_b15 ss) (q_b16 ss) x17 x18 x19 kp, mV g mb x0 ((p_sheet f ss s b n).2.1) 127 x3 x4 x5 tp.1 tp.2.1 x8 x9 x10 x11 x12 x13 (q_b14 ((p_sheet f ss s b n).2.2)) (q_b15 ((p_sheet f ss s b n).2.2)) (q_b16 ((p_sheet f ss s b n).2.2)) x17 x18 x19 kp, _, _, rfl, rfl, rfl, hx, hm, ⟨(p_sheet f ss s b n).2.1, P, K, T, tp, (p_sheet f ss s b n).2.2, es, kp, x0, x3, x4, x5, x8, x9, x10, x11, x12, x13, x17, x18, x19, rfl, hR, hP, hG, hK, hz, hb, th_sheet f hs s b n⟩⟩
set_option maxRecDepth 100000 in
theorem s_write {g : Nat → Nat → Nat} {a mb : Nat → Nat} {s : Int32} {i : Int32} {v : Int64} : zStL g a mb y_Sx_write b_Sx_write 8 2 y_Mo_write b_Mo_write 7 2 [.int s, .int i, .long v] := by
  intro w hw
  obtain ⟨f, P, K, T, tp, ss, es, kp, x0, x3, x4, x5, x8, x9, x10, x11, x12, x13, x17, x18, x19, rfl, hR, hP, hG, hK, hz, hb, hs⟩ := hw
  have h7 := hP.1
  have hx := m_Sx_write (g := g) (a := a) (f := f) (P := P) (K := K) (T := T) (tp := tp) (ss := ss) (es := es) (kp := kp) (s := s) (i := i) (v := v) hs
  have hm := m_Mo_write (g := g) (a := mb) (x0 := x0) (x1 := f) (x3 := x3) (x4 := x4) (x5 := x5) (x6 := tp.1) (x7 := tp.2.1) (x8 := x8) (x9 := x9) (x10 := x10) (x11 := x11) (x12 := x12) (x13 := x13) (x17 := x17) (x18 := x18) (x19 := x19) (x20 := kp) (ss := ss) (s := s) (i := i) (v := v) hs
  exact ⟨(p_write f ss s i v).1, xW g a f P K T tp ss es kp, xW g a ((p_write f ss s i v).2.1) P K T tp ((p_write f ss s i v).2.2) es kp, mV g mb x0 f 127 x3 x4 x5 tp.1 tp.2.1 x8 x9 x10 x11 x12 x13 (q_b14 ss) (q_b15 ss) (q_b16 ss) x17 x18 x19 kp, mV g mb x0 ((p_write f ss s i v).2.1) 127 x3 x4 x5 tp.1 tp.2.1 x8 x9 x10 x11 x12 x13 (q_b14 ((p_write f ss s i v).2.2)) (q_b15 ((p_write f ss s i v).2.2)) (q_b16 ((p_write f ss s i v).2.2)) x17 x18 x19 kp, _, _, rfl, rfl, rfl, hx, hm, ⟨(p_write f ss s i v).2.1, P, K, T, tp, (p_write f ss s i v).2.2, es, kp, x0, x3, x4, x5, x8, x9, x10, x11, x12, x13, x17, x18, x19, rfl, hR, hP, hG, hK, hz, hb, th_write f hs s i v⟩⟩
set_option maxRecDepth 100000 in
theorem s_copy {g : Nat → Nat → Nat} {a mb : Nat → Nat} {s : Int32} {fr : Int32} {t : Int32} {to : Int32} {n : Int32} : zStI g a mb y_Sx_copy b_Sx_copy 8 2 y_Mo_copy b_Mo_copy 7 2 [.int s, .int fr, .int t, .int to, .int n] := by
  intro w hw
  obtain ⟨f, P, K, T, tp, ss, es, kp, x0, x3, x4, x5, x8, x9, x10, x11, x12, x13, x17, x18, x19, rfl, hR, hP, hG, hK, hz, hb, hs⟩ := hw
  have h7 := hP.1
  have hx := m_Sx_copy (g := g) (a := a) (f := f) (P := P) (K := K) (T := T) (tp := tp) (ss := ss) (es := es) (kp := kp) (s := s) (fr := fr) (t := t) (to := to) (n := n) hs
  have hm := m_Mo_copy (g := g) (a := mb) (x0 := x0) (x1 := f) (x3 := x3) (x4 := x4) (x5 := x5) (x6 := tp.1) (x7 := tp.2.1) (x8 := x8) (x9 := x9) (x10 := x10) (x11 := x11) (x12 := x12) (x13 := x13) (x17 := x17) (x18 := x18) (x19 := x19) (x20 := kp) (ss := ss) (s := s) (fr := fr) (t := t) (to := to) (n := n) hs
  exact ⟨(p_copy f ss s fr t to n).1, xW g a f P K T tp ss es kp, xW g a ((p_copy f ss s fr t to n).2.1) P K T tp ((p_copy f ss s fr t to n).2.2) es kp, mV g mb x0 f 127 x3 x4 x5 tp.1 tp.2.1 x8 x9 x10 x11 x12 x13 (q_b14 ss) (q_b15 ss) (q_b16 ss) x17 x18 x19 kp, mV g mb x0 ((p_copy f ss s fr t to n).2.1) 127 x3 x4 x5 tp.1 tp.2.1 x8 x9 x10 x11 x12 x13 (q_b14 ((p_copy f ss s fr t to n).2.2)) (q_b15 ((p_copy f ss s fr t to n).2.2)) (q_b16 ((p_copy f ss s fr t to n).2.2)) (if (p_copy f ss s fr t to n).1 < 0 then x17 else q_le ss x17 (40 * s.toNatClampNeg + fr.toNatClampNeg) n.toNatClampNeg) x18 x19 kp, _, _, rfl, rfl, rfl, hx, hm, ⟨(p_copy f ss s fr t to n).2.1, P, K, T, tp, (p_copy f ss s fr t to n).2.2, es, kp, x0, x3, x4, x5, x8, x9, x10, x11, x12, x13, if (p_copy f ss s fr t to n).1 < 0 then x17 else q_le ss x17 (40 * s.toNatClampNeg + fr.toNatClampNeg) n.toNatClampNeg, x18, x19, rfl, hR, hP, hG, hK, hz, hb, th_copy f hs s fr t to n⟩⟩
set_option maxRecDepth 100000 in
theorem s_lays {g : Nat → Nat → Nat} {a mb : Nat → Nat} {s : Int32} : zStI g a mb y_Sx_lays b_Sx_lays 7 2 y_Mo_lays b_Mo_lays 7 3 [.int s] := by
  intro w hw
  obtain ⟨f, P, K, T, tp, ss, es, kp, x0, x3, x4, x5, x8, x9, x10, x11, x12, x13, x17, x18, x19, rfl, hR, hP, hG, hK, hz, hb, hs⟩ := hw
  have h7 := hP.1
  have hx := m_Sx_lays (g := g) (a := a) (f := f) (P := P) (K := K) (T := T) (tp := tp) (ss := ss) (es := es) (kp := kp) (s := s) hP hs
  have hm := m_Mo_lays (g := g) (a := mb) (x0 := x0) (x1 := f) (x3 := x3) (x4 := x4) (x5 := x5) (x6 := tp.1) (x7 := tp.2.1) (x8 := x8) (x9 := x9) (x10 := x10) (x11 := x11) (x12 := x12) (x13 := x13) (x17 := x17) (x18 := x18) (x19 := x19) (x20 := kp) (ss := ss) (P := P) (s := s) hR hP hG hs
  have ht := th_lays f (ss := ss) hR hP hG s
  exact ⟨(p_lays f P ss s).1, xW g a f P K T tp ss es kp, xW g a ((p_lays f P ss s).2.1) ((p_lays f P ss s).2.2) K T tp ss es kp, mV g mb x0 f 127 x3 x4 x5 tp.1 tp.2.1 x8 x9 x10 x11 x12 x13 (q_b14 ss) (q_b15 ss) (q_b16 ss) x17 x18 x19 kp, mV g mb (if (q_in s 0 3 && decide (¬ (ss s.toNatClampNeg).1 = 0)) = true then q_lyr (ss s.toNatClampNeg).2.2 x0 (min (ss s.toNatClampNeg).2.1 P.2.1) else x0) ((p_lays f P ss s).2.1) 127 x3 x4 x5 tp.1 tp.2.1 x8 x9 x10 x11 x12 x13 (q_b14 ss) (q_b15 ss) (q_b16 ss) x17 x18 x19 kp, _, _, rfl, rfl, rfl, hx, hm, ⟨(p_lays f P ss s).2.1, (p_lays f P ss s).2.2, K, T, tp, ss, es, kp, if (q_in s 0 3 && decide (¬ (ss s.toNatClampNeg).1 = 0)) = true then q_lyr (ss s.toNatClampNeg).2.2 x0 (min (ss s.toNatClampNeg).2.1 P.2.1) else x0, x3, x4, x5, x8, x9, x10, x11, x12, x13, x17, x18, x19, rfl, ht.1, ht.2.1, ht.2.2, hK, hz, hb, hs⟩⟩
set_option maxRecDepth 100000 in
theorem s_book {g : Nat → Nat → Nat} {a mb : Nat → Nat} {s : Int32} : zStI g a mb y_Sx_book b_Sx_book 4 5 y_Mo_book b_Mo_book 4 8 [.int s] := by
  intro w hw
  obtain ⟨f, P, K, T, tp, ss, es, kp, x0, x3, x4, x5, x8, x9, x10, x11, x12, x13, x17, x18, x19, rfl, hR, hP, hG, hK, hz, hb, hs⟩ := hw
  have h7 := hP.1
  have hx := m_Sx_book (g := g) (a := a) (f := f) (P := P) (K := K) (T := T) (tp := tp) (ss := ss) (es := es) (kp := kp) (s := s) hP hs
  have hm := m_Mo_book (g := g) (a := mb) (x0 := x0) (x1 := f) (x3 := x3) (x4 := x4) (x5 := x5) (x6 := tp.1) (x7 := tp.2.1) (x8 := x8) (x9 := x9) (x10 := x10) (x11 := x11) (x12 := x12) (x13 := x13) (x17 := x17) (x18 := x18) (x19 := x19) (x20 := kp) (ss := ss) (P := P) (s := s) hR hP hG hs
  rw [(p_book_T f P P T ss s).1, (p_book_T f P P T ss s).2.1, (p_book_T f P P T ss s).2.2] at hm
  exact ⟨(p_book f P T ss s).1, xW g a f P K T tp ss es kp, xW g a ((p_book f P T ss s).2.1) P K ((p_book f P T ss s).2.2.1) tp ((p_book f P T ss s).2.2.2) es kp, mV g mb x0 f 127 x3 x4 x5 tp.1 tp.2.1 x8 x9 x10 x11 x12 x13 (q_b14 ss) (q_b15 ss) (q_b16 ss) x17 x18 x19 kp, mV g mb x0 ((p_book f P T ss s).2.1) 127 (if (q_in s 0 3 && decide (¬ (ss s.toNatClampNeg).1 = 0)) = true then x0 else x3) x4 x5 tp.1 tp.2.1 x8 x9 x10 x11 x12 x13 (q_b14 ((p_book f P T ss s).2.2.2)) (q_b15 ((p_book f P T ss s).2.2.2)) (q_b16 ((p_book f P T ss s).2.2.2)) x17 x18 x19 kp, _, _, rfl, rfl, rfl, hx, hm, ⟨(p_book f P T ss s).2.1, P, K, (p_book f P T ss s).2.2.1, tp, (p_book f P T ss s).2.2.2, es, kp, x0, if (q_in s 0 3 && decide (¬ (ss s.toNatClampNeg).1 = 0)) = true then x0 else x3, x4, x5, x8, x9, x10, x11, x12, x13, x17, x18, x19, rfl, hR, hP, hG, hK, hz, hb, th_book f hs s⟩⟩
set_option maxRecDepth 100000 in
theorem s_read {g : Nat → Nat → Nat} {a mb : Nat → Nat} {s : Int32} : zStI g a mb y_Sx_read b_Sx_read 8 4 y_Mo_read b_Mo_read 6 8 [.int s] := by
  intro w hw
  obtain ⟨f, P, K, T, tp, ss, es, kp, x0, x3, x4, x5, x8, x9, x10, x11, x12, x13, x17, x18, x19, rfl, hR, hP, hG, hK, hz, hb, hs⟩ := hw
  have h7 := hP.1
  have hx := m_Sx_read (g := g) (a := a) (f := f) (P := P) (K := K) (T := T) (tp := tp) (ss := ss) (es := es) (kp := kp) (s := s) hP hs
  have hm := m_Mo_read (g := g) (a := mb) (x0 := x0) (x1 := f) (x3 := x3) (x4 := x4) (x5 := x5) (x6 := tp.1) (x7 := tp.2.1) (x8 := x8) (x9 := x9) (x10 := x10) (x11 := x11) (x12 := x12) (x13 := x13) (x17 := x17) (x18 := x18) (x19 := x19) (x20 := kp) (ss := ss) (P := P) (s := s) hR hP hG hs
  exact ⟨(p_read f P ss s).1, xW g a f P K T tp ss es kp, xW g a ((p_read f P ss s).2) P K T tp ss es kp, mV g mb x0 f 127 x3 x4 x5 tp.1 tp.2.1 x8 x9 x10 x11 x12 x13 (q_b14 ss) (q_b15 ss) (q_b16 ss) x17 x18 x19 kp, mV g mb x0 ((p_read f P ss s).2) 127 (if (q_in s 0 3 && decide (¬ (ss s.toNatClampNeg).1 = 0)) = true then x0 else x3) x4 x5 tp.1 tp.2.1 x8 x9 x10 x11 x12 x13 (q_b14 ss) (q_b15 ss) (q_b16 ss) x17 x18 x19 kp, _, _, rfl, rfl, rfl, hx, hm, ⟨(p_read f P ss s).2, P, K, T, tp, ss, es, kp, x0, if (q_in s 0 3 && decide (¬ (ss s.toNatClampNeg).1 = 0)) = true then x0 else x3, x4, x5, x8, x9, x10, x11, x12, x13, x17, x18, x19, rfl, hR, hP, hG, hK, hz, hb, hs⟩⟩
set_option maxRecDepth 100000 in
theorem s_image {g : Nat → Nat → Nat} {a mb : Nat → Nat}  : zStI g a mb y_Sx_image b_Sx_image 1 2 y_Mo_image b_Mo_image 1 1 [] := by
  intro w hw
  obtain ⟨f, P, K, T, tp, ss, es, kp, x0, x3, x4, x5, x8, x9, x10, x11, x12, x13, x17, x18, x19, rfl, hR, hP, hG, hK, hz, hb, hs⟩ := hw
  have h7 := hP.1
  have hx := m_Sx_image (g := g) (a := a) (f := f) (P := P) (K := K) (T := T) (tp := tp) (ss := ss) (es := es) (kp := kp)
  have hm := m_Mo_image (g := g) (a := mb) (x0 := x0) (x1 := f) (x3 := x3) (x4 := x4) (x5 := x5) (x6 := tp.1) (x7 := tp.2.1) (x8 := x8) (x9 := x9) (x10 := x10) (x11 := x11) (x12 := x12) (x13 := x13) (x17 := x17) (x18 := x18) (x19 := x19) (x20 := kp) (x14 := q_b14 ss) (x15 := q_b15 ss) (x16 := q_b16 ss) (P := P) hR hP hG
  exact ⟨1, xW g a f P K T tp ss es kp, xW g a f P P T tp ss es true, mV g mb x0 f 127 x3 x4 x5 tp.1 tp.2.1 x8 x9 x10 x11 x12 x13 (q_b14 ss) (q_b15 ss) (q_b16 ss) x17 x18 x19 kp, mV g mb x0 f 127 x3 x4 x5 tp.1 tp.2.1 x8 x9 x10 x11 x12 x13 (q_b14 ss) (q_b15 ss) (q_b16 ss) x17 x0 x19 true, _, _, rfl, rfl, rfl, hx, hm, ⟨f, P, P, T, tp, ss, es, true, x0, x3, x4, x5, x8, x9, x10, x11, x12, x13, x17, x0, x19, rfl, hR, hP, hG, fun _ => ⟨hR, hP, hG⟩, hz, hb, hs⟩⟩
set_option maxRecDepth 100000 in
theorem s_undo {g : Nat → Nat → Nat} {a mb : Nat → Nat}  : zStI g a mb y_Sx_undo b_Sx_undo 1 2 y_Mo_undo b_Mo_undo 1 1 [] := by
  intro w hw
  obtain ⟨f, P, K, T, tp, ss, es, kp, x0, x3, x4, x5, x8, x9, x10, x11, x12, x13, x17, x18, x19, rfl, hR, hP, hG, hK, hz, hb, hs⟩ := hw
  have h7 := hP.1
  have hx := m_Sx_undo (g := g) (a := a) (f := f) (P := P) (K := K) (T := T) (tp := tp) (ss := ss) (es := es) (kp := kp)
  have hm := m_Mo_undo (g := g) (a := mb) (x0 := x0) (x1 := f) (x3 := x3) (x4 := x4) (x5 := x5) (x6 := tp.1) (x7 := tp.2.1) (x8 := x8) (x9 := x9) (x10 := x10) (x11 := x11) (x12 := x12) (x13 := x13) (x17 := x17) (x18 := x18) (x19 := x19) (x20 := kp) (x14 := q_b14 ss) (x15 := q_b15 ss) (x16 := q_b16 ss) (P := P) (K := K) hR hP hG (fun h => (hK h).1.2.1)
  have ht := th_undo f hR hP hG hK
  exact ⟨(p_undo f P K kp).1, xW g a f P K T tp ss es kp, xW g a ((p_undo f P K kp).2.1) ((p_undo f P K kp).2.2) K T tp ss es kp, mV g mb x0 f 127 x3 x4 x5 tp.1 tp.2.1 x8 x9 x10 x11 x12 x13 (q_b14 ss) (q_b15 ss) (q_b16 ss) x17 x18 x19 kp, mV g mb (if kp = true then x18 else x0) ((p_undo f P K kp).2.1) 127 x3 x4 x5 tp.1 tp.2.1 x8 x9 x10 x11 x12 x13 (q_b14 ss) (q_b15 ss) (q_b16 ss) x17 x18 x19 kp, _, _, rfl, rfl, rfl, hx, hm, ⟨(p_undo f P K kp).2.1, (p_undo f P K kp).2.2, K, T, tp, ss, es, kp, if kp = true then x18 else x0, x3, x4, x5, x8, x9, x10, x11, x12, x13, x17, x18, x19, rfl, ht.1, ht.2.1, ht.2.2, hK, hz, hb, hs⟩⟩
set_option maxRecDepth 100000 in
theorem s_tear {g : Nat → Nat → Nat} {a mb : Nat → Nat}  : zStI g a mb y_Sx_tear b_Sx_tear 2 0 y_Mo_tear b_Mo_tear 2 0 [] := by
  intro w hw
  obtain ⟨f, P, K, T, tp, ss, es, kp, x0, x3, x4, x5, x8, x9, x10, x11, x12, x13, x17, x18, x19, rfl, hR, hP, hG, hK, hz, hb, hs⟩ := hw
  have h7 := hP.1
  have hx := m_Sx_tear (g := g) (a := a) (f := f) (P := P) (K := K) (T := T) (tp := tp) (ss := ss) (es := es) (kp := kp)
  have hm := m_Mo_tear (g := g) (a := mb) (x0 := x0) (x1 := f) (x3 := x3) (x4 := x4) (x5 := x5) (x6 := tp.1) (x7 := tp.2.1) (x8 := x8) (x9 := x9) (x10 := x10) (x11 := x11) (x12 := x12) (x13 := x13) (x17 := x17) (x18 := x18) (x19 := x19) (x20 := kp) (x14 := q_b14 ss) (x15 := q_b15 ss) (x16 := q_b16 ss) (P := P) hR hP hG
  exact ⟨zB kp, xW g a f P K T tp ss es kp, xW g a f P K T tp ss es false, mV g mb x0 f 127 x3 x4 x5 tp.1 tp.2.1 x8 x9 x10 x11 x12 x13 (q_b14 ss) (q_b15 ss) (q_b16 ss) x17 x18 x19 kp, mV g mb x0 f 127 x3 x4 x5 tp.1 tp.2.1 x8 x9 x10 x11 x12 x13 (q_b14 ss) (q_b15 ss) (q_b16 ss) x17 x18 x19 false, _, _, rfl, rfl, rfl, hx, hm, ⟨f, P, K, T, tp, ss, es, false, x0, x3, x4, x5, x8, x9, x10, x11, x12, x13, x17, x18, x19, rfl, hR, hP, hG, fun h => absurd h (by decide), hz, hb, hs⟩⟩
set_option maxRecDepth 100000 in
theorem s_count {g : Nat → Nat → Nat} {a mb : Nat → Nat} {w : Int32} : zStI g a mb y_Sx_count b_Sx_count 2 2 y_Mo_count b_Mo_count 5 2 [.int w] := by
  intro w hw
  obtain ⟨f, P, K, T, tp, ss, es, kp, x0, x3, x4, x5, x8, x9, x10, x11, x12, x13, x17, x18, x19, rfl, hR, hP, hG, hK, hz, hb, hs⟩ := hw
  have h7 := hP.1
  have hx := m_Sx_count (g := g) (a := a) (f := f) (P := P) (K := K) (T := T) (tp := tp) (ss := ss) (es := es) (kp := kp) (w := w) hP
  have hm := m_Mo_count (g := g) (a := mb) (x0 := x0) (x1 := f) (x3 := x3) (x4 := x4) (x5 := x5) (x6 := tp.1) (x7 := tp.2.1) (x8 := x8) (x9 := x9) (x10 := x10) (x11 := x11) (x12 := x12) (x13 := x13) (x17 := x17) (x18 := x18) (x19 := x19) (x20 := kp) (x14 := q_b14 ss) (x15 := q_b15 ss) (x16 := q_b16 ss) (P := P) (tp := tp) (w := w) hR hP hG rfl
  exact ⟨(p_count f P tp w).1, xW g a f P K T tp ss es kp, xW g a ((p_count f P tp w).2) P K T tp ss es kp, mV g mb x0 f 127 x3 x4 x5 tp.1 tp.2.1 x8 x9 x10 x11 x12 x13 (q_b14 ss) (q_b15 ss) (q_b16 ss) x17 x18 x19 kp, mV g mb x0 ((p_count f P tp w).2) 127 x3 x4 x5 tp.1 tp.2.1 x8 x9 x10 x11 x12 x13 (q_b14 ss) (q_b15 ss) (q_b16 ss) x17 x18 x19 kp, _, _, rfl, rfl, rfl, hx, hm, ⟨(p_count f P tp w).2, P, K, T, tp, ss, es, kp, x0, x3, x4, x5, x8, x9, x10, x11, x12, x13, x17, x18, x19, rfl, hR, hP, hG, hK, hz, hb, hs⟩⟩
set_option maxRecDepth 100000 in
theorem s_status {g : Nat → Nat → Nat} {a mb : Nat → Nat} {w : Int32} : zStI g a mb y_Sx_status b_Sx_status 2 2 y_Mo_status b_Mo_status 4 1 [.int w] := by
  intro w hw
  obtain ⟨f, P, K, T, tp, ss, es, kp, x0, x3, x4, x5, x8, x9, x10, x11, x12, x13, x17, x18, x19, rfl, hR, hP, hG, hK, hz, hb, hs⟩ := hw
  have h7 := hP.1
  have hx := m_Sx_status (g := g) (a := a) (f := f) (P := P) (K := K) (T := T) (tp := tp) (ss := ss) (es := es) (kp := kp) (w := w)
  have hm := m_Mo_status (g := g) (a := mb) (x0 := x0) (x1 := f) (x3 := x3) (x4 := x4) (x5 := x5) (x6 := tp.1) (x7 := tp.2.1) (x8 := x8) (x9 := x9) (x10 := x10) (x11 := x11) (x12 := x12) (x13 := x13) (x17 := x17) (x18 := x18) (x19 := x19) (x20 := kp) (x14 := q_b14 ss) (x15 := q_b15 ss) (x16 := q_b16 ss) (P := P) (w := w) hR hP hG
  exact ⟨(p_status f w).1, xW g a f P K T tp ss es kp, xW g a ((p_status f w).2) P K T tp ss es kp, mV g mb x0 f 127 x3 x4 x5 tp.1 tp.2.1 x8 x9 x10 x11 x12 x13 (q_b14 ss) (q_b15 ss) (q_b16 ss) x17 x18 x19 kp, mV g mb x0 ((p_status f w).2) 127 x3 x4 x5 tp.1 tp.2.1 x8 x9 x10 x11 x12 x13 (q_b14 ss) (q_b15 ss) (q_b16 ss) x17 x18 x19 kp, _, _, rfl, rfl, rfl, hx, hm, ⟨(p_status f w).2, P, K, T, tp, ss, es, kp, x0, x3, x4, x5, x8, x9, x10, x11, x12, x13, x17, x18, x19, rfl, hR, hP, hG, hK, hz, hb, hs⟩⟩
