/-! what the reference's writing methods make of its row -/
section ZMU
/-- an exhibit is put at a place -/
def mPut (f : Int → Int) (p x y : Int) : Int → Int := fun j => if j = 1 then f 1 + 1 else if j = 2 * p + 3 then x else if j = 2 * p + 4 then y else if 2 * p + 4 < j ∧ j ≤ 2 * f 1 + 4 then f (j - 2) else f j
/-- an exhibit goes out -/
def mOut (f : Int → Int) (p : Int) : Int → Int := fun j => if j = 1 then f 1 - 1 else if 2 * p + 3 ≤ j ∧ j < 2 * f 1 + 1 then f (j + 2) else f j
def mMove (f : Int → Int) (p t : Int) : Int → Int := mPut (mOut f p) t (f (2 * p + 3)) (f (2 * p + 4))
def mCome (f : Int → Int) (p y : Int) : Int → Int := zu (mPut f p (f 2) y) 2 (f 2 + 1)
/-- a citation that the exhibit x is named by, from a page on, with so many pages more -/
def mHit (f : Int → Int) (x fr mo k : Int) : Prop := f k = x ∧ fr ≤ f (k + 1) ∧ f (k + 1) + mo ≤ 60
def mHitB (f : Int → Int) (x fr mo k : Int) : Bool := decide (f k = x ∧ fr ≤ f (k + 1) ∧ f (k + 1) + mo ≤ 60)
/-- citations of x from a page on name x2 then -/
def mFol (f : Int → Int) (x x2 fr mo : Int) : Int → Int := fun j =>
  if 65 ≤ j ∧ j < 449 ∧ 1 ≤ (j - 65) % 32 ∧ (j - 65) % 32 ≤ 2 * f (j - (j - 65) % 32) then
    (if (j - 65) % 2 = 1 then (if mHitB f x fr mo j = true then x2 else f j) else (if mHitB f x fr mo (j - 1) = true then f j + mo else f j))
  else f j
theorem mPut_fin {f h : Int → Int} {p x y : Int} (hp : 0 ≤ p) (hh : ∀ j, h j = if 2 * p + 4 < j ∧ j ≤ 2 * f 1 + 4 then f (j - 2) else f j) : zu (zu (zu h (2 * p + 3) x) (2 * p + 4) y) 1 (f 1 + 1) = mPut f p x y := by
  funext j
  simp only [zu, mPut]
  by_cases c1 : j = 1
  · rw [if_pos c1, if_pos c1]
  · rw [if_neg c1, if_neg c1]
    by_cases c2 : j = 2 * p + 4
    · rw [if_pos c2, if_neg (by omega), if_pos c2]
    · rw [if_neg c2]
      by_cases c3 : j = 2 * p + 3
      · rw [if_pos c3, if_pos c3]
      · rw [if_neg c3, if_neg c3, if_neg c2, hh]
theorem mPut_step {f h : Int → Int} {k n : Int} (hk : 3 ≤ k ∧ k ≤ 2 * n + 2) (hh : ∀ j, h j = if k + 2 < j ∧ j ≤ 2 * n + 4 then f (j - 2) else f j) : ∀ j, zu h (k + 2) (h k) j = if k - 1 + 2 < j ∧ j ≤ 2 * n + 4 then f (j - 2) else f j := by
  intro j
  simp only [zu]
  by_cases c : j = k + 2
  · rw [if_pos c, if_pos (by omega), hh, if_neg (by omega)]
    congr 1
    omega
  · rw [if_neg c, hh]
    by_cases c2 : k + 2 < j ∧ j ≤ 2 * n + 4
    · rw [if_pos c2, if_pos (by omega)]
    · rw [if_neg c2, if_neg (by omega)]
theorem mOut_step {f h : Int → Int} {k p n : Int} (hk : 2 * p + 3 ≤ k ∧ 0 ≤ p) (hh : ∀ j, h j = if j = 1 then n else if 2 * p + 3 ≤ j ∧ j < k then f (j + 2) else f j) : ∀ j, zu h k (h (k + 2)) j = if j = 1 then n else if 2 * p + 3 ≤ j ∧ j < k + 1 then f (j + 2) else f j := by
  intro j
  simp only [zu]
  by_cases c : j = k
  · rw [if_pos c, if_neg (by omega), if_pos (by omega), hh, if_neg (by omega), if_neg (by omega), c]
  · rw [if_neg c, hh]
    by_cases c1 : j = 1
    · rw [if_pos c1, if_pos c1]
    · rw [if_neg c1, if_neg c1]
      by_cases c2 : 2 * p + 3 ≤ j ∧ j < k
      · rw [if_pos c2, if_pos (by omega)]
      · rw [if_neg c2, if_neg (by omega)]
theorem mOut_fin {f h : Int → Int} {k p : Int} (hp : 0 ≤ p ∧ p < f 1) (hk : k = 2 * f 1 + 1) (hh : ∀ j, h j = if j = 1 then f 1 - 1 else if 2 * p + 3 ≤ j ∧ j < k then f (j + 2) else f j) : h = mOut f p := by
  funext j
  rw [hh]
  simp only [mOut]
  subst hk
  rfl
theorem mFol_at {f : Int → Int} {x x2 fr mo a b : Int} (ha : 0 ≤ a ∧ a < 12) (hb : 0 ≤ b ∧ b < f (32 * a + 65)) (hn : f (32 * a + 65) ≤ 6) : mFol f x x2 fr mo (32 * a + 2 * b + 66) = (if mHitB f x fr mo (32 * a + 2 * b + 66) = true then x2 else f (32 * a + 2 * b + 66)) ∧ mFol f x x2 fr mo (32 * a + 2 * b + 67) = (if mHitB f x fr mo (32 * a + 2 * b + 66) = true then f (32 * a + 2 * b + 67) + mo else f (32 * a + 2 * b + 67)) := by
  have e1 : (32 * a + 2 * b + 66 - 65) % 32 = 2 * b + 1 := by omega
  have e2 : (32 * a + 2 * b + 67 - 65) % 32 = 2 * b + 2 := by omega
  constructor
  · simp only [mFol]
    rw [e1, show 32 * a + 2 * b + 66 - (2 * b + 1) = 32 * a + 65 by omega, if_pos (by omega), if_pos (by omega)]
  · simp only [mFol]
    rw [e2, show 32 * a + 2 * b + 67 - (2 * b + 2) = 32 * a + 65 by omega, if_pos (by omega), if_neg (by omega), show 32 * a + 2 * b + 67 - 1 = 32 * a + 2 * b + 66 by omega]
theorem mFol_out {f : Int → Int} {x x2 fr mo j : Int} (h : ¬ (65 ≤ j ∧ j < 449 ∧ 1 ≤ (j - 65) % 32 ∧ (j - 65) % 32 ≤ 2 * f (j - (j - 65) % 32))) : mFol f x x2 fr mo j = f j := by
  simp only [mFol]
  rw [if_neg h]
/-- the walk of the citations: what lies ahead of k is done -/
def mFolTo (f : Int → Int) (x x2 fr mo k : Int) : Int → Int := fun j => if j < k then mFol f x x2 fr mo j else f j
theorem mFolTo_0 (f : Int → Int) (x x2 fr mo : Int) : mFolTo f x x2 fr mo 66 = f := by
  funext j
  simp only [mFolTo]
  by_cases c : j < 66
  · rw [if_pos c]
    exact mFol_out (by omega)
  · rw [if_neg c]
theorem mFolTo_hit {f : Int → Int} {x x2 fr mo a b : Int} (ha : 0 ≤ a ∧ a < 12) (hb : 0 ≤ b ∧ b < f (32 * a + 65)) (hn : f (32 * a + 65) ≤ 6) (c1 : f (32 * a + 2 * b + 66) = x) (c2 : fr ≤ f (32 * a + 2 * b + 67)) (c3 : f (32 * a + 2 * b + 67) + mo ≤ 60) :
    zu (zu (mFolTo f x x2 fr mo (32 * a + 2 * b + 66)) (32 * a + 2 * b + 66) x2) (32 * a + 2 * b + 67) (f (32 * a + 2 * b + 67) + mo) = mFolTo f x x2 fr mo (32 * a + 2 * (b + 1) + 66) := by
  have hh : mHitB f x fr mo (32 * a + 2 * b + 66) = true := by
    unfold mHitB
    rw [show 32 * a + 2 * b + 66 + 1 = 32 * a + 2 * b + 67 by omega]
    exact decide_eq_true ⟨c1, c2, c3⟩
  have m := mFol_at (x := x) (x2 := x2) (fr := fr) (mo := mo) ha hb hn
  rw [if_pos hh, if_pos hh] at m
  funext j
  simp only [zu, mFolTo]
  by_cases q1 : j = 32 * a + 2 * b + 67
  · rw [if_pos q1, if_pos (by omega), q1, m.2]
  · rw [if_neg q1]
    by_cases q2 : j = 32 * a + 2 * b + 66
    · rw [if_pos q2, if_pos (by omega), q2, m.1]
    · rw [if_neg q2]
      by_cases q3 : j < 32 * a + 2 * b + 66
      · rw [if_pos q3, if_pos (by omega)]
      · rw [if_neg q3, if_neg (by omega)]
theorem mFolTo_miss {f : Int → Int} {x x2 fr mo a b : Int} (ha : 0 ≤ a ∧ a < 12) (hb : 0 ≤ b ∧ b < f (32 * a + 65)) (hn : f (32 * a + 65) ≤ 6) (c : ¬ (f (32 * a + 2 * b + 66) = x ∧ fr ≤ f (32 * a + 2 * b + 67) ∧ f (32 * a + 2 * b + 67) + mo ≤ 60)) :
    mFolTo f x x2 fr mo (32 * a + 2 * b + 66) = mFolTo f x x2 fr mo (32 * a + 2 * (b + 1) + 66) := by
  have hh : ¬ mHitB f x fr mo (32 * a + 2 * b + 66) = true := by
    unfold mHitB
    rw [show 32 * a + 2 * b + 66 + 1 = 32 * a + 2 * b + 67 by omega]
    simpa using c
  have m := mFol_at (x := x) (x2 := x2) (fr := fr) (mo := mo) ha hb hn
  rw [if_neg hh, if_neg hh] at m
  funext j
  simp only [mFolTo]
  by_cases q1 : j = 32 * a + 2 * b + 67
  · rw [if_neg (by omega), if_pos (by omega), q1, m.2]
  · by_cases q2 : j = 32 * a + 2 * b + 66
    · rw [if_neg (by omega), if_pos (by omega), q2, m.1]
    · by_cases q3 : j < 32 * a + 2 * b + 66
      · rw [if_pos q3, if_pos (by omega)]
      · rw [if_neg q3, if_neg (by omega)]
theorem mFolTo_row {f : Int → Int} {x x2 fr mo a : Int} (ha : 0 ≤ a ∧ a < 12) (hn : 0 ≤ f (32 * a + 65) ∧ f (32 * a + 65) ≤ 6) (hn2 : a < 11 → 0 ≤ f (32 * a + 97)) : mFolTo f x x2 fr mo (32 * a + 2 * f (32 * a + 65) + 66) = mFolTo f x x2 fr mo (32 * (a + 1) + 66) := by
  funext j
  simp only [mFolTo]
  by_cases q1 : j < 32 * a + 2 * f (32 * a + 65) + 66
  · rw [if_pos q1, if_pos (by omega)]
  · rw [if_neg q1]
    by_cases q2 : j < 32 * (a + 1) + 66
    · rw [if_pos q2]
      refine (mFol_out ?_).symm
      intro h
      by_cases q3 : j = 32 * a + 97
      · omega
      · have e : j - (j - 65) % 32 = 32 * a + 65 := by omega
        rw [e] at h
        omega
    · rw [if_neg q2]
theorem mFolTo_end {f : Int → Int} {x x2 fr mo : Int} : mFolTo f x x2 fr mo (32 * 12 + 66) = mFol f x x2 fr mo := by
  funext j
  simp only [mFolTo]
  by_cases q : j < 32 * 12 + 66
  · rw [if_pos q]
  · rw [if_neg q]
    exact (mFol_out (by omega)).symm
theorem mFolTo_ge {f : Int → Int} {x x2 fr mo k j : Int} (h : k ≤ j) : mFolTo f x x2 fr mo k j = f j := by
  simp only [mFolTo]
  rw [if_neg (by omega)]
theorem mFolTo_cnt {f : Int → Int} {x x2 fr mo k a : Int} (ha : 0 ≤ a ∧ a < 12) : mFolTo f x x2 fr mo k (32 * a + 65) = f (32 * a + 65) := by
  simp only [mFolTo]
  by_cases q : 32 * a + 65 < k
  · rw [if_pos q]
    exact mFol_out (by omega)
  · rw [if_neg q]
/-- saving: the row goes behind the others, which move up where there are six -/
def mSh (past : Int → Int) (kept : Int) : Int → Int := if kept = 6 then zcpy past past 449 0 2245 else past
def mKp (kept : Int) : Int := if kept = 6 then 5 else kept
def mSav (f past : Int → Int) (kept : Int) : Int → Int := zcpy f (mSh past kept) 0 (449 * mKp kept) 449
theorem mSh_step (past : Int → Int) {k : Int} (hk : 0 ≤ k) : zu (zcpy past past 449 0 k) k (zcpy past past 449 0 k (k + 449)) = zcpy past past 449 0 (k + 1) := by
  funext j
  simp only [zu, zcpy]
  by_cases c : j = k
  · rw [if_pos c, if_neg (by omega), if_pos (by omega), c]
    congr 1
    omega
  · rw [if_neg c]
    by_cases c2 : 0 ≤ j ∧ j < 0 + k
    · rw [if_pos c2, if_pos (by omega)]
    · rw [if_neg c2, if_neg (by omega)]
theorem mKp_no {k : Int} (h : k ≠ 6) : mKp k = k := if_neg h
theorem mKp_6 {k : Int} (h : k = 6) : mKp k = k - 1 := by
  unfold mKp
  rw [if_pos h]
  omega
theorem mSav_no {f past : Int → Int} {k : Int} (h : k ≠ 6) : mSav f past k = zcpy f past 0 (449 * k) 449 := by
  unfold mSav mSh
  rw [if_neg h, mKp_no h]
theorem mSav_6 {f past : Int → Int} {k : Int} (h : k = 6) : mSav f past k = zcpy f (zcpy past past 449 0 2245) 0 (449 * k - 449) 449 := by
  unfold mSav mSh
  rw [if_pos h, mKp_6 h, show 449 * (k - 1) = 449 * k - 449 by omega]
end ZMU
