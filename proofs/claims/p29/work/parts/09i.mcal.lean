/-! what citations told as a text can be -/
section ZMCA
theorem cLt_rng {tx : Int → Int} {ty i : Int} (h : cOk tx ty i = true) : 0 ≤ cLt tx ty i ∧ cLt tx ty i ≤ 29 := by
  unfold cOk at h
  rw [Bool.and_eq_true, Bool.and_eq_true] at h
  have a1 := cA_lt h.1
  unfold cLt
  by_cases c : cTwo tx ty i = true
  · rw [if_pos c]
    unfold cTwo at c
    rw [Bool.and_eq_true] at c
    have := cA_lt c.2
    omega
  · rw [if_neg c]
    omega
theorem cPage_rng {tx : Int → Int} {ty i : Int} (h : cOk tx ty i = true) : 1 ≤ cPage tx ty i ∧ cPage tx ty i ≤ 60 := by
  unfold cOk at h
  rw [Bool.and_eq_true, Bool.and_eq_true] at h
  have a1 := cA_lt h.2.2
  unfold cPage cPg
  by_cases c : cTen tx ty (cI2 tx ty i + 1) = true
  · rw [if_pos c]
    unfold cTen at c
    rw [Bool.and_eq_true] at c
    have a2 := cA_lt c.1
    have a3 := of_decide_eq_true c.2
    omega
  · rw [if_neg c]
    omega
theorem tPut_rng {tx td : Int → Int} {ty i n : Int} (h : cOk tx ty i = true) (ht : ∀ j, -2147483648 ≤ td j ∧ td j < 2147483648) : ∀ j, -2147483648 ≤ tPut tx ty i n td j ∧ tPut tx ty i n td j < 2147483648 := by
  intro j
  have q1 := cLt_rng h
  have q2 := cPage_rng h
  have q3 := ht j
  simp only [tPut, zu]
  split
  · omega
  · split
    · omega
    · exact q3
theorem tRun_rng (tx : Int → Int) (ty : Int) : ∀ (m : Nat) (n i : Int) (td : Int → Int), (∀ j, -2147483648 ≤ td j ∧ td j < 2147483648) → n ≤ (tRun tx ty m n i td).2.2.1 ∧ (tRun tx ty m n i td).2.2.1 ≤ n + m ∧ ∀ j, -2147483648 ≤ (tRun tx ty m n i td).2.2.2 j ∧ (tRun tx ty m n i td).2.2.2 j < 2147483648
  | 0, n, i, td, h => ⟨Int.le_refl _, by simp [tRun], h⟩
  | m + 1, n, i, td, h => by
    rw [tRun]
    by_cases c : cOk tx ty i = true
    · rw [if_pos c]
      by_cases d : cMore tx ty i n = true
      · rw [if_pos d]
        have q := tRun_rng tx ty m (n + 1) (cEnd tx ty i + 1) (tPut tx ty i n td) (tPut_rng c h)
        exact ⟨by omega, by have := q.2.1; omega, q.2.2⟩
      · rw [if_neg d]
        exact ⟨by show n ≤ n + 1; omega, by show n + 1 ≤ n + ((m + 1 : Nat) : Int); omega, tPut_rng c h⟩
    · rw [if_neg c]
      exact ⟨Int.le_refl _, by show n ≤ n + ((m + 1 : Nat) : Int); omega, h⟩
end ZMCA
