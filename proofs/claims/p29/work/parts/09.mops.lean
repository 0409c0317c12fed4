/-! what a call makes of the reference's state: its sort of answer (0: it returns), and the new row -/
section ZMO
/-- a row that the calls keep: a cap on the numbers given -/
def WF (f : Int → Int) (cap : Int) : Prop := (∀ j, -2147483648 ≤ f j ∧ f j < 2147483648) ∧ (10 ≤ f 0 ∧ f 0 ≤ 200) ∧ (0 ≤ f 1 ∧ f 1 ≤ 30) ∧ (0 ≤ f 2 ∧ f 2 ≤ cap) ∧
  (∀ k, 0 ≤ k → k < f 1 → 0 ≤ f (2 * k + 3) ∧ f (2 * k + 3) < f 2 ∧ 1 ≤ f (2 * k + 4) ∧ f (2 * k + 4) ≤ 60) ∧
  (∀ j k, 0 ≤ j → j < k → k < f 1 → f (2 * j + 3) ≠ f (2 * k + 3)) ∧
  (∀ a, 0 ≤ a → a < 12 → 0 ≤ f (32 * a + 65) ∧ f (32 * a + 65) ≤ 6 ∧ -1 ≤ f (32 * a + 78) ∧ f (32 * a + 78) ≤ 6) ∧
  (∀ a b, 0 ≤ a → a < 12 → 0 ≤ b → b < f (32 * a + 65) → 0 ≤ f (32 * a + 2 * b + 66) ∧ f (32 * a + 2 * b + 66) < f 2 ∧ 1 ≤ f (32 * a + 2 * b + 67) ∧ f (32 * a + 2 * b + 67) ≤ 60) ∧
  (∀ a b, 0 ≤ a → a < 12 → 0 ≤ b → b < f (32 * a + 78) → -1 ≤ f (32 * a + 3 * b + 79) ∧ f (32 * a + 3 * b + 79) ≤ 29 ∧ 1 ≤ f (32 * a + 3 * b + 80) ∧ f (32 * a + 3 * b + 80) ≤ 60 ∧ 0 ≤ f (32 * a + 3 * b + 81) ∧ f (32 * a + 3 * b + 81) ≤ 1)
theorem WF.rg {f : Int → Int} {cap : Int} (h : WF f cap) : ∀ j, -2147483648 ≤ f j ∧ f j < 2147483648 := h.1
theorem WF.bp {f : Int → Int} {cap : Int} (h : WF f cap) : 10 ≤ f 0 ∧ f 0 ≤ 200 := h.2.1
theorem WF.n {f : Int → Int} {cap : Int} (h : WF f cap) : 0 ≤ f 1 ∧ f 1 ≤ 30 := h.2.2.1
theorem WF.nx {f : Int → Int} {cap : Int} (h : WF f cap) : 0 ≤ f 2 ∧ f 2 ≤ cap := h.2.2.2.1
theorem WF.ex {f : Int → Int} {cap : Int} (h : WF f cap) : ∀ k, 0 ≤ k → k < f 1 → 0 ≤ f (2 * k + 3) ∧ f (2 * k + 3) < f 2 ∧ 1 ≤ f (2 * k + 4) ∧ f (2 * k + 4) ≤ 60 := h.2.2.2.2.1
theorem WF.inj {f : Int → Int} {cap : Int} (h : WF f cap) : ∀ j k, 0 ≤ j → j < k → k < f 1 → f (2 * j + 3) ≠ f (2 * k + 3) := h.2.2.2.2.2.1
theorem WF.pa {f : Int → Int} {cap : Int} (h : WF f cap) : ∀ a, 0 ≤ a → a < 12 → 0 ≤ f (32 * a + 65) ∧ f (32 * a + 65) ≤ 6 ∧ -1 ≤ f (32 * a + 78) ∧ f (32 * a + 78) ≤ 6 := h.2.2.2.2.2.2.1
theorem WF.ci {f : Int → Int} {cap : Int} (h : WF f cap) : ∀ a b, 0 ≤ a → a < 12 → 0 ≤ b → b < f (32 * a + 65) → 0 ≤ f (32 * a + 2 * b + 66) ∧ f (32 * a + 2 * b + 66) < f 2 ∧ 1 ≤ f (32 * a + 2 * b + 67) ∧ f (32 * a + 2 * b + 67) ≤ 60 := h.2.2.2.2.2.2.2.1
theorem WF.pr {f : Int → Int} {cap : Int} (h : WF f cap) : ∀ a b, 0 ≤ a → a < 12 → 0 ≤ b → b < f (32 * a + 78) → -1 ≤ f (32 * a + 3 * b + 79) ∧ f (32 * a + 3 * b + 79) ≤ 29 ∧ 1 ≤ f (32 * a + 3 * b + 80) ∧ f (32 * a + 3 * b + 80) ≤ 60 ∧ 0 ≤ f (32 * a + 3 * b + 81) ∧ f (32 * a + 3 * b + 81) ≤ 1 := h.2.2.2.2.2.2.2.2
theorem WF.wr {f : Int → Int} {cap : Int} (h : WF f cap) : WR f :=
  ⟨h.rg, by have := h.n; omega, fun a h0 h1 => by have := h.pa a h0 h1; omega, fun k h0 h1 => by have := h.ex k h0 h1; omega, by have := h.bp; omega⟩
def kIns (f : Int → Int) (p y : Int) : Int := if ¬ (0 ≤ p ∧ p ≤ f 1) then 1 else if ¬ (1 ≤ y ∧ y ≤ 60) then 2 else if f 1 = 30 then 3 else 0
def kPl (f : Int → Int) (p : Int) : Int := if ¬ (0 ≤ p ∧ p < f 1) then 1 else 0
def kMov (f : Int → Int) (p t : Int) : Int := if ¬ (0 ≤ p ∧ p < f 1) then 1 else if ¬ (0 ≤ t ∧ t < f 1) then 1 else 0
def kPgs (f : Int → Int) (p y : Int) : Int := if ¬ (0 ≤ p ∧ p < f 1) then 1 else if ¬ (1 ≤ y ∧ y ≤ 60) then 2 else 0
def kJoi (f : Int → Int) (p : Int) : Int := if ¬ (0 ≤ p ∧ p < f 1 - 1) then 1 else if 60 < f (2 * p + 4) + f (2 * p + 6) then 2 else 0
def kSpl (f : Int → Int) (p y : Int) : Int := if ¬ (0 ≤ p ∧ p < f 1) then 1 else if ¬ (1 ≤ y ∧ y < f (2 * p + 4)) then 2 else if f 1 = 30 then 3 else 0
def kCit (f : Int → Int) (a p y : Int) : Int := if ¬ (0 ≤ a ∧ a < 12) then 1 else if ¬ (0 ≤ p ∧ p < f 1) then 1 else if ¬ (1 ≤ y ∧ y ≤ 60) then 2 else if f (32 * a + 65) = 6 then 3 else 0
def kPar (a : Int) : Int := if ¬ (0 ≤ a ∧ a < 12) then 1 else 0
def kSet (y : Int) : Int := if ¬ (10 ≤ y ∧ y ≤ 200) then 1 else 0
def kApp (ty x : Int) : Int := if ¬ (33 ≤ x ∧ x ≤ 126) then 1 else if ty = 60 then 2 else 0
def mJoin (f : Int → Int) (p : Int) : Int → Int := zu (mOut (mFol f (f (2 * p + 5)) (f (2 * p + 3)) 1 (f (2 * p + 4))) (p + 1)) (2 * p + 4) (f (2 * p + 4) + f (2 * p + 6))
def mSplit (f : Int → Int) (p y : Int) : Int → Int := zu (mCome (mFol f (f (2 * p + 3)) (f 2) (y + 1) (-y)) (p + 1) (f (2 * p + 4) - y)) (2 * p + 4) y
def mName (f : Int → Int) (a p y : Int) : Int → Int := zu (zu (zu f (32 * a + 2 * f (32 * a + 65) + 66) (f (2 * p + 3))) (32 * a + 2 * f (32 * a + 65) + 67) y) (32 * a + 65) (f (32 * a + 65) + 1)
/-- how many of the first c citations are not lost -/
def mLeft (f : Int → Int) (a c : Int) : Int := zsum (fun b => b2i (!sLost f a b)) c
def mClnF (f : Int → Int) (a : Int) : Nat → Int → Int
  | 0 => f
  | n + 1 => if sLost f a n = true then mClnF f a n else zu (zu (mClnF f a n) (32 * a + 2 * mLeft f a n + 66) (f (32 * a + 2 * n + 66))) (32 * a + 2 * mLeft f a n + 67) (f (32 * a + 2 * n + 67))
def mCln (f : Int → Int) (a c : Int) : Int → Int := mClnF f a c.toNat
def mClean (f : Int → Int) (a : Int) : Int → Int := zu (mCln f a (f (32 * a + 65))) (32 * a + 65) (mLeft f a (f (32 * a + 65)))
/-- the first c citations printed -/
def mPrt (f : Int → Int) (a c : Int) : Int → Int := fun j => if j = 32 * a + 78 then f (32 * a + 65) else if 32 * a + 79 ≤ j ∧ j < 32 * a + 79 + 3 * c then (if (j - 32 * a - 79) % 3 = 0 then sLet f a ((j - 32 * a - 79) / 3) else if (j - 32 * a - 79) % 3 = 1 then f (32 * a + 2 * ((j - 32 * a - 79) / 3) + 67) else b2i (sLost f a ((j - 32 * a - 79) / 3))) else f j
def mPrint (f : Int → Int) (a : Int) : Int → Int := mPrt f a (f (32 * a + 65))
/-- rows that say the same of exhibits and of a paragraph's citations from c0 on -/
theorem sPl_cong {f h : Int → Int} {x : Int} (h1 : h 1 = f 1) (he : ∀ k, 0 ≤ k → k < f 1 → h (2 * k + 3) = f (2 * k + 3)) : sPl h x = sPl f x := by
  unfold sPl
  rw [h1]
  exact zfind_cong he
theorem sLet_cong {f h : Int → Int} {a b : Int} (h1 : h 1 = f 1) (he : ∀ k, 0 ≤ k → k < f 1 → h (2 * k + 3) = f (2 * k + 3)) (hc : h (32 * a + 2 * b + 66) = f (32 * a + 2 * b + 66)) : sLet h a b = sLet f a b := by
  unfold sLet
  rw [hc]
  exact sPl_cong h1 he
theorem sLost_cong {f h : Int → Int} {a b : Int} (hn : 0 ≤ f 1) (h1 : h 1 = f 1) (he : ∀ k, 0 ≤ k → k < f 1 → h (2 * k + 3) = f (2 * k + 3)) (hp : ∀ k, 0 ≤ k → k < f 1 → h (2 * k + 4) = f (2 * k + 4)) (hc : h (32 * a + 2 * b + 66) = f (32 * a + 2 * b + 66)) (hc2 : h (32 * a + 2 * b + 67) = f (32 * a + 2 * b + 67)) : sLost h a b = sLost f a b := by
  unfold sLost
  rw [sLet_cong h1 he hc, hc2]
  have r : -1 ≤ sLet f a b ∧ sLet f a b < f 1 := zfind_rng _ _ hn
  by_cases q : sLet f a b = -1
  · rw [decide_eq_true (Or.inl q), decide_eq_true (Or.inl q)]
  · rw [hp _ (by omega) r.2]
theorem mOut_wr {f : Int → Int} {p : Int} (h : WR f) (hp : 0 ≤ p ∧ p < f 1) : WR (mOut f p) := by
  obtain ⟨h1, h2, h3, h4, h5⟩ := h
  have e1 : mOut f p 1 = f 1 - 1 := by simp [mOut]
  refine ⟨fun j => ?_, by rw [e1]; omega, fun a h0 h9 => ?_, fun k h0 h9 => ?_, ?_⟩
  · simp only [mOut]
    split
    · omega
    · split
      · exact h1 _
      · exact h1 _
  · have e : mOut f p (32 * a + 65) = f (32 * a + 65) := by
      simp only [mOut]
      rw [if_neg (by omega), if_neg (by omega)]
    rw [e]
    exact h3 a h0 h9
  · rw [e1] at h9
    by_cases c : p ≤ k
    · have e : mOut f p (2 * k + 4) = f (2 * (k + 1) + 4) := by
        simp only [mOut]
        rw [if_neg (by omega), if_pos (by omega)]
        congr 1
        omega
      rw [e]
      exact h4 (k + 1) (by omega) (by omega)
    · have e : mOut f p (2 * k + 4) = f (2 * k + 4) := by
        simp only [mOut]
        rw [if_neg (by omega), if_neg (by omega)]
      rw [e]
      exact h4 k h0 (by omega)
  · have e : mOut f p 0 = f 0 := by
      simp only [mOut]
      rw [if_neg (by omega), if_neg (by omega)]
    rw [e]
    exact h5
end ZMO
