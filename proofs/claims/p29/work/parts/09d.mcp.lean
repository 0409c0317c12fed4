/-! cleaning, printing, naming: what is half done -/
section ZMCP
theorem mLeft_rng (f : Int → Int) (a : Int) {c : Int} (h : 0 ≤ c) : 0 ≤ mLeft f a c ∧ mLeft f a c ≤ c := by
  have r := zsum_rng (h := fun b => b2i (!sLost f a b)) (c := 1) h (fun j _ _ => by
    have := b2i_rng (!sLost f a j)
    show 0 ≤ b2i _ ∧ b2i _ ≤ 1
    omega)
  unfold mLeft
  omega
theorem mLeft_1 {f : Int → Int} {a c : Int} (h : 0 ≤ c) : mLeft f a (c + 1) = mLeft f a c + b2i (!sLost f a c) := by
  unfold mLeft
  rw [zsum_1 _ h]
theorem mCln_0 (f : Int → Int) (a : Int) : mCln f a 0 = f := rfl
theorem mCln_1 {f : Int → Int} {a c : Int} (h : 0 ≤ c) : mCln f a (c + 1) = if sLost f a c = true then mCln f a c else zu (zu (mCln f a c) (32 * a + 2 * mLeft f a c + 66) (f (32 * a + 2 * c + 66))) (32 * a + 2 * mLeft f a c + 67) (f (32 * a + 2 * c + 67)) := by
  unfold mCln
  rw [show (c + 1).toNat = c.toNat + 1 by omega, mClnF, Int.toNat_of_nonneg h]
theorem mClnF_out {f : Int → Int} {a : Int} : ∀ (n : Nat) (j : Int), (j < 32 * a + 66 ∨ 32 * a + 2 * n + 66 ≤ j) → mClnF f a n j = f j
  | 0, _, _ => rfl
  | n + 1, j, h => by
    have r := mLeft_rng f a (c := (n : Int)) (by omega)
    have ih := mClnF_out (f := f) (a := a) n j (by omega)
    rw [mClnF]
    by_cases q : sLost f a n = true
    · rw [if_pos q, ih]
    · rw [if_neg q, zu_ne _ _ (by omega), zu_ne _ _ (by omega), ih]
theorem mCln_out {f : Int → Int} {a c j : Int} (hc : 0 ≤ c) (h : j < 32 * a + 66 ∨ 32 * a + 2 * c + 66 ≤ j) : mCln f a c j = f j := by
  unfold mCln
  exact mClnF_out _ _ (by omega)
theorem mClnF_rg {f : Int → Int} {a : Int} (hr : ∀ j, -2147483648 ≤ f j ∧ f j < 2147483648) : ∀ (n : Nat) (j : Int), -2147483648 ≤ mClnF f a n j ∧ mClnF f a n j < 2147483648
  | 0, j => hr j
  | n + 1, j => by
    have ih := mClnF_rg (a := a) hr n j
    have r1 := hr (32 * a + 2 * n + 66)
    have r2 := hr (32 * a + 2 * n + 67)
    rw [mClnF]
    by_cases q : sLost f a n = true
    · rw [if_pos q]; exact ih
    · rw [if_neg q]
      simp only [zu]
      (repeat' split) <;> omega
/-- a row that says the same of exhibits, and of how many citations there are, reads as well -/
theorem wR_same {f h : Int → Int} (hw : WR f) (hr : ∀ j, -2147483648 ≤ h j ∧ h j < 2147483648) (h0 : h 0 = f 0) (h1 : h 1 = f 1) (hp : ∀ k, 0 ≤ k → k < f 1 → h (2 * k + 4) = f (2 * k + 4)) (hc : ∀ a, 0 ≤ a → a < 12 → h (32 * a + 65) = f (32 * a + 65)) : WR h :=
  ⟨hr, by rw [h1]; exact hw.2.1, fun a a0 a1 => by rw [hc a a0 a1]; exact hw.2.2.1 a a0 a1, fun k k0 k1 => by rw [h1] at k1; rw [hp k k0 k1]; exact hw.2.2.2.1 k k0 k1, by rw [h0]; exact hw.2.2.2.2⟩
theorem mCln_wr {f : Int → Int} {a c : Int} (hw : WR f) (ha : 0 ≤ a ∧ a < 12) (hc : 0 ≤ c ∧ c ≤ 6) : WR (mCln f a c) := by
  have hn := hw.2.1
  refine wR_same hw (fun j => by unfold mCln; exact mClnF_rg hw.1 _ j) (mCln_out hc.1 (by omega)) (mCln_out hc.1 (by omega)) (fun k k0 k1 => mCln_out hc.1 (by omega)) (fun a2 a0 a1 => mCln_out hc.1 (by omega))
theorem mCln_lost {f : Int → Int} {a c : Int} (hw : WR f) (ha : 0 ≤ a ∧ a < 12) (hc : 0 ≤ c ∧ c ≤ 6) : sLost (mCln f a c) a c = sLost f a c := by
  have hn := hw.2.1
  exact sLost_cong (by omega) (mCln_out hc.1 (by omega)) (fun k k0 k1 => mCln_out hc.1 (by omega)) (fun k k0 k1 => mCln_out hc.1 (by omega)) (mCln_out hc.1 (by omega)) (mCln_out hc.1 (by omega))
theorem mPrt_0 (f : Int → Int) (a : Int) : zu f (32 * a + 78) (f (32 * a + 65)) = mPrt f a 0 := by
  funext j
  simp only [zu, mPrt]
  by_cases c : j = 32 * a + 78
  · rw [if_pos c, if_pos c]
  · rw [if_neg c, if_neg c, if_neg (by omega)]
theorem mPrt_out {f : Int → Int} {a c j : Int} (h : j < 32 * a + 78 ∨ (32 * a + 79 ≤ j ∧ 32 * a + 79 + 3 * c ≤ j)) : mPrt f a c j = f j := by
  simp only [mPrt]
  rw [if_neg (by omega), if_neg (by omega)]
theorem mPrt_n (f : Int → Int) (a c : Int) : mPrt f a c (32 * a + 78) = f (32 * a + 65) := by
  simp only [mPrt, if_true]
theorem mPrt_1 {f : Int → Int} {a c : Int} (hc : 0 ≤ c) : zu (zu (zu (mPrt f a c) (32 * a + 3 * c + 79) (sLet f a c)) (32 * a + 3 * c + 80) (f (32 * a + 2 * c + 67))) (32 * a + 3 * c + 81) (b2i (sLost f a c)) = mPrt f a (c + 1) := by
  funext j
  simp only [zu]
  by_cases q3 : j = 32 * a + 3 * c + 81
  · rw [if_pos q3]
    simp only [mPrt]
    rw [if_neg (by omega), if_pos (by omega), if_neg (by omega), if_neg (by omega), show (j - 32 * a - 79) / 3 = c by omega]
  · rw [if_neg q3]
    by_cases q2 : j = 32 * a + 3 * c + 80
    · rw [if_pos q2]
      simp only [mPrt]
      rw [if_neg (by omega), if_pos (by omega), if_neg (by omega), if_pos (by omega), show (j - 32 * a - 79) / 3 = c by omega]
    · rw [if_neg q2]
      by_cases q1 : j = 32 * a + 3 * c + 79
      · rw [if_pos q1]
        simp only [mPrt]
        rw [if_neg (by omega), if_pos (by omega), if_pos (by omega), show (j - 32 * a - 79) / 3 = c by omega]
      · rw [if_neg q1]
        simp only [mPrt]
        by_cases c1 : j = 32 * a + 78
        · rw [if_pos c1, if_pos c1]
        · rw [if_neg c1, if_neg c1]
          by_cases c2 : 32 * a + 79 ≤ j ∧ j < 32 * a + 79 + 3 * c
          · rw [if_pos c2, if_pos (show 32 * a + 79 ≤ j ∧ j < 32 * a + 79 + 3 * (c + 1) by omega)]
          · rw [if_neg c2, if_neg (show ¬ (32 * a + 79 ≤ j ∧ j < 32 * a + 79 + 3 * (c + 1)) by omega)]
theorem sLet_in {f : Int → Int} (hw : WR f) (a b : Int) : -2147483648 ≤ sLet f a b ∧ sLet f a b < 2147483648 := by
  have := sLet_rng hw a b
  have := hw.2.1
  omega
theorem mPrt_rg {f : Int → Int} (hw : WR f) (a c j : Int) : -2147483648 ≤ mPrt f a c j ∧ mPrt f a c j < 2147483648 := by
  have r0 := hw.1 j
  have r1 := hw.1 (32 * a + 65)
  have r2 := sLet_in hw a ((j - 32 * a - 79) / 3)
  have r3 := hw.1 (32 * a + 2 * ((j - 32 * a - 79) / 3) + 67)
  have r4 := b2i_ir (sLost f a ((j - 32 * a - 79) / 3))
  simp only [mPrt]
  split
  · exact r1
  · split
    · split
      · exact r2
      · split
        · exact r3
        · exact r4
    · exact r0
theorem mPrt_wr {f : Int → Int} {a c : Int} (hw : WR f) (ha : 0 ≤ a ∧ a < 12) (hc : 0 ≤ c ∧ c ≤ 6) : WR (mPrt f a c) := by
  have hn := hw.2.1
  exact wR_same hw (mPrt_rg hw a c) (mPrt_out (by omega)) (mPrt_out (by omega)) (fun k k0 k1 => mPrt_out (by omega)) (fun a2 a0 a1 => mPrt_out (by omega))
theorem mPrt_let {f : Int → Int} {a c b : Int} (hw : WR f) (ha : 0 ≤ a ∧ a < 12) (hb : 0 ≤ b ∧ b < 6) : sLet (mPrt f a c) a b = sLet f a b := by
  have hn := hw.2.1
  exact sLet_cong (mPrt_out (by omega)) (fun k k0 k1 => mPrt_out (by omega)) (mPrt_out (by omega))
theorem mPrt_lost {f : Int → Int} {a c b : Int} (hw : WR f) (ha : 0 ≤ a ∧ a < 12) (hb : 0 ≤ b ∧ b < 6) : sLost (mPrt f a c) a b = sLost f a b := by
  have hn := hw.2.1
  exact sLost_cong (by omega) (mPrt_out (by omega)) (fun k k0 k1 => mPrt_out (by omega)) (fun k k0 k1 => mPrt_out (by omega)) (mPrt_out (by omega)) (mPrt_out (by omega))
def kUnd (k : Int) : Int := if k = 0 then 1 else 0
/-- a row saved -/
def mPast (past : Int → Int) (i : Int) : Int → Int := fun j => past (449 * i + j)
/-- a paragraph's citations anew, the first n of those told -/
def mNmF (f : Int → Int) (a : Int) (td : Int → Int) : Nat → Int → Int
  | 0 => zu f (32 * a + 65) 0
  | n + 1 => mName (mNmF f a td n) a (td (2 * n)) (td (2 * n + 1))
def mNms (f : Int → Int) (a : Int) (td : Int → Int) (n : Int) : Int → Int := mNmF f a td n.toNat
theorem mNms_0 (f : Int → Int) (a : Int) (td : Int → Int) : mNms f a td 0 = zu f (32 * a + 65) 0 := rfl
theorem mNms_1 {f : Int → Int} {a : Int} {td : Int → Int} {n : Int} (h : 0 ≤ n) : mNms f a td (n + 1) = mName (mNms f a td n) a (td (2 * n)) (td (2 * n + 1)) := by
  unfold mNms
  rw [show (n + 1).toNat = n.toNat + 1 by omega, mNmF, Int.toNat_of_nonneg h]
theorem mNmF_n (f : Int → Int) (a : Int) (td : Int → Int) : ∀ n : Nat, mNmF f a td n (32 * a + 65) = n
  | 0 => by rw [mNmF, zu_eq]; rfl
  | n + 1 => by
    rw [mNmF]
    unfold mName
    rw [zu_eq, mNmF_n f a td n]
    omega
theorem mNms_n {f : Int → Int} {a : Int} {td : Int → Int} {n : Int} (h : 0 ≤ n) : mNms f a td n (32 * a + 65) = n := by
  unfold mNms
  rw [mNmF_n, Int.toNat_of_nonneg h]
/-- all letters told are places of now -/
def tGood (td : Int → Int) (n m : Int) : Bool := !zany (fun k => !decide (0 ≤ td (2 * k) ∧ td (2 * k) ≤ m - 1)) n
def kCal (f : Int → Int) (a : Int) (R : Bool × Int × Int × (Int → Int)) : Int := if ¬ (0 ≤ a ∧ a < 12) then 1 else if R.1 = false then 2 else if tGood R.2.2.2 R.2.2.1 (f 1) = false then 3 else 0
end ZMCP
