/-! citations as a text, read as the reference reads them -/
section ZMT
/-- the character at i is there, and lies between lo and hi -/
def cA (tx : Int → Int) (ty i lo hi : Int) : Bool := decide (i < ty ∧ lo ≤ tx i ∧ tx i ≤ hi)
def cTwo (tx : Int → Int) (ty i : Int) : Bool := decide (tx i = 65) && cA tx ty (i + 1) 65 68
def cI2 (tx : Int → Int) (ty i : Int) : Int := if cTwo tx ty i = true then i + 2 else i + 1
def cLt (tx : Int → Int) (ty i : Int) : Int := if cTwo tx ty i = true then tx (i + 1) - 39 else tx i - 65
def cTen (tx : Int → Int) (ty j : Int) : Bool := cA tx ty (j + 1) 48 57 && decide (10 * tx j + tx (j + 1) - 528 ≤ 60)
def cPg (tx : Int → Int) (ty j : Int) : Int := if cTen tx ty j = true then 10 * tx j + tx (j + 1) - 528 else tx j - 48
def cI5 (tx : Int → Int) (ty j : Int) : Int := if cTen tx ty j = true then j + 2 else j + 1
def cOk (tx : Int → Int) (ty i : Int) : Bool := cA tx ty i 65 90 && (cA tx ty (cI2 tx ty i) 46 46 && cA tx ty (cI2 tx ty i + 1) 49 57)
def cEnd (tx : Int → Int) (ty i : Int) : Int := cI5 tx ty (cI2 tx ty i + 1)
def cPage (tx : Int → Int) (ty i : Int) : Int := cPg tx ty (cI2 tx ty i + 1)
def cStop (tx : Int → Int) (ty i : Int) : Int := if cA tx ty i 65 90 = false then i else if cA tx ty (cI2 tx ty i) 46 46 = false then cI2 tx ty i else cI2 tx ty i + 1
/-- where the reading of one citation ends, or stops -/
def cAt (tx : Int → Int) (ty i : Int) : Int := if cOk tx ty i = true then cEnd tx ty i else cStop tx ty i
theorem cI2_rng (tx : Int → Int) (ty i : Int) : cI2 tx ty i = i + 1 ∨ cI2 tx ty i = i + 2 := by
  unfold cI2
  split
  · right; rfl
  · left; rfl
theorem cI5_rng (tx : Int → Int) (ty i : Int) : cI5 tx ty i = i + 1 ∨ cI5 tx ty i = i + 2 := by
  unfold cI5
  split
  · right; rfl
  · left; rfl
theorem cA_lt {tx : Int → Int} {ty i lo hi : Int} (h : cA tx ty i lo hi = true) : i < ty ∧ lo ≤ tx i ∧ tx i ≤ hi := of_decide_eq_true h
theorem cA_no {tx : Int → Int} {ty i lo hi : Int} (h : cA tx ty i lo hi = false) : ¬ (i < ty ∧ lo ≤ tx i ∧ tx i ≤ hi) := of_decide_eq_false h
theorem cI5_le {tx : Int → Int} {ty j : Int} (h : j < ty) : cI5 tx ty j ≤ ty := by
  unfold cI5
  by_cases c : cTen tx ty j = true
  · rw [if_pos c]
    unfold cTen at c
    rw [Bool.and_eq_true] at c
    have := cA_lt c.1
    omega
  · rw [if_neg c]
    omega
theorem cI2_le {tx : Int → Int} {ty i : Int} (h : i < ty) : cI2 tx ty i ≤ ty := by
  unfold cI2
  by_cases c : cTwo tx ty i = true
  · rw [if_pos c]
    unfold cTwo at c
    rw [Bool.and_eq_true] at c
    have := cA_lt c.2
    omega
  · rw [if_neg c]
    omega
theorem cAt_rng {tx : Int → Int} {ty i : Int} (h0 : 0 ≤ i) (h1 : i ≤ ty) : i ≤ cAt tx ty i ∧ cAt tx ty i ≤ ty := by
  have r2 := cI2_rng tx ty i
  have r5 := cI5_rng tx ty (cI2 tx ty i + 1)
  unfold cAt
  by_cases c : cOk tx ty i = true
  · rw [if_pos c]
    unfold cOk at c
    rw [Bool.and_eq_true, Bool.and_eq_true] at c
    have a3 := cA_lt c.2.2
    have l5 := cI5_le (tx := tx) a3.1
    unfold cEnd
    omega
  · rw [if_neg c]
    unfold cStop
    by_cases q1 : cA tx ty i 65 90 = false
    · rw [if_pos q1]; omega
    · rw [if_neg q1]
      have a1 := cA_lt (Bool.of_not_eq_false q1)
      have l2 := cI2_le (tx := tx) a1.1
      by_cases q2 : cA tx ty (cI2 tx ty i) 46 46 = false
      · rw [if_pos q2]; omega
      · rw [if_neg q2]
        have a2 := cA_lt (Bool.of_not_eq_false q2)
        omega
/-- what is told of a citation, behind n others -/
def tPut (tx : Int → Int) (ty i n : Int) (td : Int → Int) : Int → Int := zu (zu td (2 * n) (cLt tx ty i)) (2 * n + 1) (cPage tx ty i)
def cMore (tx : Int → Int) (ty i n : Int) : Bool := decide (n + 1 < 6) && cA tx ty (cEnd tx ty i) 44 44
/-- the whole text: is it complete; where the reading ends; how many are told; what is told -/
def tRun (tx : Int → Int) (ty : Int) : Nat → Int → Int → (Int → Int) → Bool × Int × Int × (Int → Int)
  | 0, n, i, td => (false, i, n, td)
  | m + 1, n, i, td => if cOk tx ty i = true then (if cMore tx ty i n = true then tRun tx ty m (n + 1) (cEnd tx ty i + 1) (tPut tx ty i n td) else (decide (cEnd tx ty i = ty), cEnd tx ty i, n + 1, tPut tx ty i n td)) else (false, cStop tx ty i, n, td)
def tAll (tx : Int → Int) (ty : Int) (td : Int → Int) : Bool × Int × Int × (Int → Int) := tRun tx ty 6 0 0 td
def tR (tx : Int → Int) (ty n i : Int) (td : Int → Int) : Bool × Int × Int × (Int → Int) := tRun tx ty (6 - n).toNat n i td
theorem tR_no {tx td : Int → Int} {ty n i : Int} (hn : 0 ≤ n ∧ n ≤ 5) (h : cOk tx ty i = false) : tR tx ty n i td = (false, cStop tx ty i, n, td) := by
  unfold tR
  rw [show (6 - n).toNat = (5 - n).toNat + 1 by omega, tRun, if_neg (by rw [h]; decide)]
theorem tR_next {tx td : Int → Int} {ty n i w : Int} {X : Bool × Int × Int × (Int → Int)} (hn : 0 ≤ n ∧ n ≤ 5) (hX : X = tR tx ty n i td) (h : cOk tx ty i = true) (hw : w = b2i (cMore tx ty i n)) :
    (w = 1 ∧ n + 1 ≤ 5 ∧ X = tR tx ty (n + 1) (cEnd tx ty i + w) (tPut tx ty i n td)) ∨ (w = 0 ∧ X = (decide (cEnd tx ty i + w = ty), cEnd tx ty i + w, n + 1, tPut tx ty i n td)) := by
  have e : tR tx ty n i td = if cMore tx ty i n = true then tRun tx ty (5 - n).toNat (n + 1) (cEnd tx ty i + 1) (tPut tx ty i n td) else (decide (cEnd tx ty i = ty), cEnd tx ty i, n + 1, tPut tx ty i n td) := by
    unfold tR
    rw [show (6 - n).toNat = (5 - n).toNat + 1 by omega, tRun, if_pos h]
  cases hm : cMore tx ty i n with
  | true =>
    rw [hm] at hw e
    rw [if_pos rfl] at e
    have hw1 : w = 1 := hw
    have h6 : n + 1 < 6 := by
      unfold cMore at hm
      rw [Bool.and_eq_true] at hm
      exact of_decide_eq_true hm.1
    refine Or.inl ⟨hw1, by omega, ?_⟩
    rw [hX, e, hw1]
    unfold tR
    rw [show (6 - (n + 1)).toNat = (5 - n).toNat by omega]
  | false =>
    rw [hm] at hw e
    rw [if_neg (by decide)] at e
    have hw0 : w = 0 := hw
    refine Or.inr ⟨hw0, ?_⟩
    rw [hX, e, hw0, Int.add_zero]
def sFirst (tx : Int → Int) (ty : Int) (td : Int → Int) : Int := if (tAll tx ty td).1 = false ∧ (tAll tx ty td).2.1 < ty then (tAll tx ty td).2.1 else ty
end ZMT
