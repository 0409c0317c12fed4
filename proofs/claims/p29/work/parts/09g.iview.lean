/-! what the class keeps of a state: binders, tabs, first pages, letters, losses -/
section ZIV
theorem zV_step {pg : Int → Int} {lim kk x2 x3 x4 x5 b1 i1 t1 : Int} (hk : 0 ≤ kk) (h2 : x2 = zBnd pg lim kk - 1) (h3 : (kk = 0 ∧ x3 = 0 ∧ x4 = 0 ∧ x5 = 0) ∨ (0 < kk ∧ x3 = zPg pg lim (kk - 1) ∧ x4 = zTb pg lim (kk - 1) + 1 ∧ x5 = zSm pg lim (kk - 1) + pg (kk - 1)))
    (h : ((kk = 0 ∨ lim < x3 + pg kk) ∧ b1 = x2 + 1 ∧ i1 = 0 ∧ t1 = 0) ∨ (kk ≠ 0 ∧ x3 + pg kk ≤ lim ∧ b1 = x2 ∧ i1 = x3 ∧ t1 = x4)) : b1 = zBn pg lim kk ∧ t1 = zTb pg lim kk ∧ i1 + pg kk = zPg pg lim kk ∧ x5 = zSm pg lim kk := by
  by_cases c0 : kk = 0
  · subst c0
    have z1 : zBn pg lim 0 = 0 := rfl
    have z2 : zPg pg lim 0 = pg 0 := rfl
    have z3 : zBnd pg lim 0 = 0 := rfl
    have z4 : zTb pg lim 0 = 0 := rfl
    have z5 : zSm pg lim 0 = 0 := rfl
    rw [z1, z2, z4, z5]
    rw [z3] at h2
    omega
  · have ek : kk - 1 + 1 = kk := by omega
    have e3 : zBnd pg lim kk = zBn pg lim (kk - 1) + 1 := by
      unfold zBnd
      rw [if_neg c0]
    rw [e3] at h2
    have hy : x3 = zPg pg lim (kk - 1) := by omega
    rcases h with h | h
    · have s := zlie_opens (h := pg) (lim := lim) (k := kk - 1) (by omega) (by rw [ek]; omega)
      rw [ek] at s
      omega
    · have s := zlie_goes (h := pg) (lim := lim) (k := kk - 1) (by omega) (by rw [ek]; omega)
      rw [ek] at s
      omega
theorem zV_fac {g1 g2 g3 A B D : Int → Int} {k v1 v2 v3 : Int} (h : ∀ j, 0 ≤ j → j < k → g1 j = A j ∧ g2 j = B j ∧ g3 j = D j) (h1 : v1 = A k) (h2 : v2 = B k) (h3 : v3 = D k) : ∀ j, 0 ≤ j → j < k + 1 → zu g1 k v1 j = A j ∧ zu g2 k v2 j = B j ∧ zu g3 k v3 j = D j := by
  intro j j0 j1
  by_cases c : j = k
  · subst c
    rw [zu_eq, zu_eq, zu_eq]
    exact ⟨h1, h2, h3⟩
  · rw [zu_ne _ _ c, zu_ne _ _ c, zu_ne _ _ c]
    exact h j j0 (by omega)
theorem zC_fac {g1 g2 cc A B : Int → Int} {a b v1 v2 : Int} (hb : b < cc a) (h : ∀ a2 b2, 0 ≤ a2 → a2 < 12 → 0 ≤ b2 → b2 < cc a2 → b2 ≤ 5 → 6 * a2 + b2 < 6 * a + b → g1 (6 * a2 + b2) = A (6 * a2 + b2) ∧ g2 (6 * a2 + b2) = B (6 * a2 + b2)) (h1 : v1 = A (6 * a + b)) (h2 : v2 = B (6 * a + b)) : ∀ a2 b2, 0 ≤ a2 → a2 < 12 → 0 ≤ b2 → b2 < cc a2 → b2 ≤ 5 → 6 * a2 + b2 < 6 * a + (b + 1) → zu g1 (6 * a + b) v1 (6 * a2 + b2) = A (6 * a2 + b2) ∧ zu g2 (6 * a + b) v2 (6 * a2 + b2) = B (6 * a2 + b2) := by
  intro a2 b2 q0 q1 q2 q3 q4 q5
  by_cases c : 6 * a2 + b2 = 6 * a + b
  · rw [c, zu_eq, zu_eq]
    exact ⟨h1, h2⟩
  · rw [zu_ne _ _ c, zu_ne _ _ c]
    exact h a2 b2 q0 q1 q2 q3 q4 (by omega)
theorem zu_all {P : Int → Prop} {g : Int → Int} {k v : Int} (h : ∀ j, P (g j)) (hv : P v) : ∀ j, P (zu g k v j) := by
  intro j
  simp only [zu]
  split
  · exact hv
  · exact h j
end ZIV
