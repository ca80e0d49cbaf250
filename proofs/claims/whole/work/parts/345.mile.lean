theorem q_mile1 {x y : Nat} (hx : x < 31) (hy : y < 31) {c : Int32} (hc : c = 3 ∨ c = 6 ∨ c = 1) : ∃ m, m < 31 ∧ nI x + q_max (-(1 * c)) (q_min (1 * c) (nI y - nI x)) = nI m := by
  have k3 : ∀ x y : Fin 31, (nI x.val + q_max (-(1 * 3)) (q_min (1 * 3) (nI y.val - nI x.val))).toInt.toNat < 31 ∧ nI x.val + q_max (-(1 * 3)) (q_min (1 * 3) (nI y.val - nI x.val)) = nI (nI x.val + q_max (-(1 * 3)) (q_min (1 * 3) (nI y.val - nI x.val))).toInt.toNat := by decide +kernel
  have k6 : ∀ x y : Fin 31, (nI x.val + q_max (-(1 * 6)) (q_min (1 * 6) (nI y.val - nI x.val))).toInt.toNat < 31 ∧ nI x.val + q_max (-(1 * 6)) (q_min (1 * 6) (nI y.val - nI x.val)) = nI (nI x.val + q_max (-(1 * 6)) (q_min (1 * 6) (nI y.val - nI x.val))).toInt.toNat := by decide +kernel
  have k1 : ∀ x y : Fin 31, (nI x.val + q_max (-(1 * 1)) (q_min (1 * 1) (nI y.val - nI x.val))).toInt.toNat < 31 ∧ nI x.val + q_max (-(1 * 1)) (q_min (1 * 1) (nI y.val - nI x.val)) = nI (nI x.val + q_max (-(1 * 1)) (q_min (1 * 1) (nI y.val - nI x.val))).toInt.toNat := by decide +kernel
  rcases hc with rfl | rfl | rfl
  · exact ⟨_, (k3 ⟨x, hx⟩ ⟨y, hy⟩).1, (k3 ⟨x, hx⟩ ⟨y, hy⟩).2⟩
  · exact ⟨_, (k6 ⟨x, hx⟩ ⟨y, hy⟩).1, (k6 ⟨x, hx⟩ ⟨y, hy⟩).2⟩
  · exact ⟨_, (k1 ⟨x, hx⟩ ⟨y, hy⟩).1, (k1 ⟨x, hx⟩ ⟨y, hy⟩).2⟩
