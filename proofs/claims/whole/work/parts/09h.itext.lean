/-! the class: its text, one step at a time -/
section ZIX0
def aLs (k : Int) : Int := if k < 65 ∨ 90 < k then 0 else if k = 65 then 2 else 3
def aLp (k cur : Int) (pl : Int → Int) : Int → Int := if k < 65 ∨ 90 < k then pl else zu pl cur (k - 65)
def aMs (k : Int) : Int := if k = 46 then 4 else if k < 65 ∨ 68 < k then 0 else 3
def aMp (k cur : Int) (pl : Int → Int) : Int → Int := if k < 65 ∨ 68 < k then pl else zu pl cur (k - 39)
def aDs (k : Int) : Int := if k < 49 ∨ 57 < k then 0 else 5
def aDp (k cur : Int) (pg : Int → Int) : Int → Int := if k < 49 ∨ 57 < k then pg else zu pg cur (k - 48)
def aCs (k cur : Int) : Int := if k = 44 ∧ cur < 5 then 1 else 0
def aCc (k cur : Int) : Int := if k = 44 ∧ cur < 5 then cur + 1 else cur
def aEs (k cur : Int) (pg : Int → Int) : Int := if k < 48 ∨ 57 < k then aCs k cur else if 60 < 10 * pg cur + k - 48 then 0 else 6
def aEc (k cur : Int) : Int := if k < 48 ∨ 57 < k then aCc k cur else cur
def aEp (k cur : Int) (pg : Int → Int) : Int → Int := if (k < 48 ∨ 57 < k) ∨ 60 < 10 * pg cur + k - 48 then pg else zu pg cur (10 * pg cur + k - 48)
/-- the step behind a character, the place, the letters and the pages behind it -/
def aSt (s k cur : Int) (pg : Int → Int) : Int := if s = 1 then aLs k else if s = 2 then aMs k else if s = 3 then (if k = 46 then 4 else 0) else if s = 4 then aDs k else if s = 5 then aEs k cur pg else aCs k cur
def aCu (s k cur : Int) : Int := if s = 5 then aEc k cur else if s = 6 then aCc k cur else cur
def aPl (s k cur : Int) (pl : Int → Int) : Int → Int := if s = 1 then aLp k cur pl else if s = 2 then aMp k cur pl else pl
def aPg (s k cur : Int) (pg : Int → Int) : Int → Int := if s = 4 then aDp k cur pg else if s = 5 then aEp k cur pg else pg
theorem aCs_rng (k cur : Int) : 0 ≤ aCs k cur ∧ aCs k cur ≤ 6 := by
  unfold aCs
  split <;> omega
theorem aSt_rng (s k cur : Int) (pg : Int → Int) : 0 ≤ aSt s k cur pg ∧ aSt s k cur pg ≤ 6 := by
  have q := aCs_rng k cur
  unfold aSt aLs aMs aDs aEs
  repeat (first | omega | split)
theorem aCc_rng {k cur : Int} (h : 0 ≤ cur ∧ cur ≤ 5) : 0 ≤ aCc k cur ∧ aCc k cur ≤ 5 := by
  unfold aCc
  split <;> omega
theorem aCu_rng {s k cur : Int} (h : 0 ≤ cur ∧ cur ≤ 5) : 0 ≤ aCu s k cur ∧ aCu s k cur ≤ 5 := by
  have q := aCc_rng (k := k) h
  unfold aCu aEc
  repeat (first | omega | split)
theorem zu_rng {g : Int → Int} {k v lo hi : Int} (h : ∀ j, lo ≤ g j ∧ g j ≤ hi) (hv : lo ≤ v ∧ v ≤ hi) : ∀ j, lo ≤ zu g k v j ∧ zu g k v j ≤ hi := by
  intro j
  simp only [zu]
  split
  · exact hv
  · exact h j
theorem aPg_rng {s k cur : Int} {pg : Int → Int} (h : ∀ j, 0 ≤ pg j ∧ pg j ≤ 60) : ∀ j, 0 ≤ aPg s k cur pg j ∧ aPg s k cur pg j ≤ 60 := by
  have q := h cur
  unfold aPg aDp aEp
  by_cases c4 : s = 4
  · rw [if_pos c4]
    by_cases d : k < 49 ∨ 57 < k
    · rw [if_pos d]
      exact h
    · rw [if_neg d]
      exact zu_rng h (by omega)
  · rw [if_neg c4]
    by_cases c5 : s = 5
    · rw [if_pos c5]
      by_cases d : (k < 48 ∨ 57 < k) ∨ 60 < 10 * pg cur + k - 48
      · rw [if_pos d]
        exact h
      · rw [if_neg d]
        exact zu_rng h (by omega)
    · rw [if_neg c5]
      exact h
def aRun (cds : Int → Int) (len : Int) : Nat → Int → Int → Int → (Int → Int) → (Int → Int) → Int × Int × Int × (Int → Int) × (Int → Int)
  | 0, i, s, c, pl, pg => (i, s, c, pl, pg)
  | m + 1, i, s, c, pl, pg => if aSt s (cds i) c pg = 0 then (i, aSt s (cds i) c pg, aCu s (cds i) c, aPl s (cds i) c pl, aPg s (cds i) c pg) else aRun cds len m (i + 1) (aSt s (cds i) c pg) (aCu s (cds i) c) (aPl s (cds i) c pl) (aPg s (cds i) c pg)
def aR (cds : Int → Int) (len i s c : Int) (pl pg : Int → Int) : Int × Int × Int × (Int → Int) × (Int → Int) := aRun cds len (len - i).toNat i s c pl pg
def aAll (cds : Int → Int) (len : Int) (pl pg : Int → Int) : Int × Int × Int × (Int → Int) × (Int → Int) := aR cds len 0 1 0 pl pg
theorem aR_end {cds : Int → Int} {len i s c : Int} {pl pg : Int → Int} (h : i = len) : aR cds len i s c pl pg = (i, s, c, pl, pg) := by
  unfold aR
  rw [show (len - i).toNat = 0 by omega, aRun]
theorem aR_stop {cds : Int → Int} {len i s c : Int} {pl pg : Int → Int} (h : i < len) (h0 : aSt s (cds i) c pg = 0) : aR cds len i s c pl pg = (i, aSt s (cds i) c pg, aCu s (cds i) c, aPl s (cds i) c pl, aPg s (cds i) c pg) := by
  unfold aR
  rw [show (len - i).toNat = (len - (i + 1)).toNat + 1 by omega, aRun, if_pos h0]
theorem aR_go {cds : Int → Int} {len i s c : Int} {pl pg : Int → Int} (h : i < len) (h0 : ¬ aSt s (cds i) c pg = 0) : aR cds len i s c pl pg = aR cds len (i + 1) (aSt s (cds i) c pg) (aCu s (cds i) c) (aPl s (cds i) c pl) (aPg s (cds i) c pg) := by
  unfold aR
  rw [show (len - i).toNat = (len - (i + 1)).toNat + 1 by omega, aRun, if_neg h0]
end ZIX0
