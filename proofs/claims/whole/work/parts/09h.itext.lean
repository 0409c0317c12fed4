/-! the class: its text, one step at a time -/
section ZIX0
def aLs (k : Int) : Int := if k < 65 ∨ 90 < k then 0 else if k = 65 then 2 else 3
def aLp (k cur : Int) (pl : Int → Int) : Int → Int := if k < 65 ∨ 90 < k then pl else zu pl cur (k - 65)
def aMs (k : Int) : Int := if k = 46 then 4 else if k < 65 ∨ 68 < k then 0 else 3
def aMp (k cur : Int) (pl : Int → Int) : Int → Int := if k < 65 ∨ 68 < k then pl else zu pl cur (k - 39)
def aDs (k : Int) : Int := if k < 49 ∨ 57 < k then 0 else 5
def aDp (k cur : Int) (pg : Int → Int) : Int → Int := if k < 49 ∨ 57 < k then pg else zu pg cur (k - 48)
def aCs (k cur : Int) : Int := if k = 44 ∧ cur < 5 then 1 else 0
def aCc (k cur : Int) : Int := if k = 44 ∧ cur < 5 then cur + 1 else cur
def aEs (k cur : Int) (pg : Int → Int) : Int := if k < 48 ∨ 57 < k then aCs k cur else if 60 < 10 * pg cur + k - 48 then 0 else 6
def aEc (k cur : Int) : Int := if k < 48 ∨ 57 < k then aCc k cur else cur
def aEp (k cur : Int) (pg : Int → Int) : Int → Int := if (k < 48 ∨ 57 < k) ∨ 60 < 10 * pg cur + k - 48 then pg else zu pg cur (10 * pg cur + k - 48)
/-- the step behind a character, the place, the letters and the pages behind it -/
def aSt (s k cur : Int) (pg : Int → Int) : Int := if s = 1 then aLs k else if s = 2 then aMs k else if s = 3 then (if k = 46 then 4 else 0) else if s = 4 then aDs k else if s = 5 then aEs k cur pg else aCs k cur
def aCu (s k cur : Int) : Int := if s = 5 then aEc k cur else if s = 6 then aCc k cur else cur
def aPl (s k cur : Int) (pl : Int → Int) : Int → Int := if s = 1 then aLp k cur pl else if s = 2 then aMp k cur pl else pl
def aPg (s k cur : Int) (pg : Int → Int) : Int → Int := if s = 4 then aDp k cur pg else if s = 5 then aEp k cur pg else pg
end ZIX0
