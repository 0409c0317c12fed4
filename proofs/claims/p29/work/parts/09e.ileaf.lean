/-! what the class's small parts make of their rows -/
section ZIL
/-- a row with something put in at a place, n before -/
def zIn (h : Int → Int) (n p v : Int) : Int → Int := fun k => if k = p then v else if p < k ∧ k ≤ n then h (k - 1) else h k
/-- a row with a place taken out, n before -/
def zOut (h : Int → Int) (n p : Int) : Int → Int := fun k => if p ≤ k ∧ k < n - 1 then h (k + 1) else h k
theorem zIn_step {h f : Int → Int} {n k : Int} (hk : 1 ≤ k) (hh : ∀ j, h j = if k < j ∧ j ≤ n then f (j - 1) else f j) (hn : k ≤ n) : ∀ j, zu h k (h (k - 1)) j = if k - 1 < j ∧ j ≤ n then f (j - 1) else f j := by
  intro j
  simp only [zu]
  by_cases c : j = k
  · rw [if_pos c, if_pos (by omega), hh, if_neg (by omega), c]
  · rw [if_neg c, hh]
    by_cases c2 : k < j ∧ j ≤ n
    · rw [if_pos c2, if_pos (by omega)]
    · rw [if_neg c2, if_neg (by omega)]
theorem zIn_fin {h f : Int → Int} {n p v : Int} (hh : ∀ j, h j = if p < j ∧ j ≤ n then f (j - 1) else f j) : zu h p v = zIn f n p v := by
  funext j
  simp only [zu, zIn]
  by_cases c : j = p
  · rw [if_pos c, if_pos c]
  · rw [if_neg c, if_neg c, hh]
theorem zOut_step {h f : Int → Int} {p k : Int} (hk : p ≤ k) (hh : ∀ j, h j = if p ≤ j ∧ j < k then f (j + 1) else f j) : ∀ j, zu h k (h (k + 1)) j = if p ≤ j ∧ j < k + 1 then f (j + 1) else f j := by
  intro j
  simp only [zu]
  by_cases c : j = k
  · rw [if_pos c, if_pos (by omega), hh, if_neg (by omega), c]
  · rw [if_neg c, hh]
    by_cases c2 : p ≤ j ∧ j < k
    · rw [if_pos c2, if_pos (by omega)]
    · rw [if_neg c2, if_neg (by omega)]
theorem zOut_fin {h f : Int → Int} {n p k : Int} (hk : k = n - 1) (hh : ∀ j, h j = if p ≤ j ∧ j < k then f (j + 1) else f j) : h = zOut f n p := by
  funext j
  rw [hh]
  simp only [zOut]
  subst hk
  rfl
/-- letter and loss of the citation in a cell, by the class's rows -/
def iLet (num : Int → Int) (n : Int) (cn : Int → Int) (k : Int) : Int := zfind num (cn k) n
def iLost (num pgs : Int → Int) (n : Int) (cn cp : Int → Int) (k : Int) : Bool := decide (iLet num n cn k = -1 ∨ pgs (iLet num n cn k) < cp k)
/-- citations of x whose page is such (P) name x2 then, with so many pages more: the rows of numbers and pages, cells below k -/
def iFn (cc cn cp : Int → Int) (P : Int → Bool) (x x2 k : Int) : Int → Int := fun j => if 0 ≤ j ∧ j < k ∧ j % 6 < cc (j / 6) ∧ cn j = x ∧ P (cp j) = true then x2 else cn j
def iFp (cc cn cp : Int → Int) (P : Int → Bool) (x mo k : Int) : Int → Int := fun j => if 0 ≤ j ∧ j < k ∧ j % 6 < cc (j / 6) ∧ cn j = x ∧ P (cp j) = true then cp j + mo else cp j
theorem iFn_0 (cc cn cp : Int → Int) (P : Int → Bool) (x x2 : Int) : iFn cc cn cp P x x2 0 = cn := by
  funext j
  simp only [iFn]
  rw [if_neg (by omega)]
theorem iFp_0 (cc cn cp : Int → Int) (P : Int → Bool) (x mo : Int) : iFp cc cn cp P x mo 0 = cp := by
  funext j
  simp only [iFp]
  rw [if_neg (by omega)]
theorem iFn_ge {cc cn cp : Int → Int} {P : Int → Bool} {x x2 k j : Int} (h : k ≤ j) : iFn cc cn cp P x x2 k j = cn j := by
  simp only [iFn]
  rw [if_neg (by omega)]
theorem iFp_ge {cc cn cp : Int → Int} {P : Int → Bool} {x mo k j : Int} (h : k ≤ j) : iFp cc cn cp P x mo k j = cp j := by
  simp only [iFp]
  rw [if_neg (by omega)]
theorem iFn_hit {cc cn cp : Int → Int} {P : Int → Bool} {x x2 k : Int} (h0 : 0 ≤ k) (h1 : k % 6 < cc (k / 6)) (h2 : cn k = x) (h3 : P (cp k) = true) : zu (iFn cc cn cp P x x2 k) k x2 = iFn cc cn cp P x x2 (k + 1) := by
  funext j
  simp only [zu, iFn]
  by_cases c : j = k
  · subst c
    rw [if_pos rfl, if_pos ⟨h0, by omega, h1, h2, h3⟩]
  · rw [if_neg c]
    by_cases q : j < k
    · simp only [q, show j < k + 1 by omega]
    · simp only [q, show ¬ j < k + 1 by omega]
theorem iFp_hit {cc cn cp : Int → Int} {P : Int → Bool} {x mo k : Int} (h0 : 0 ≤ k) (h1 : k % 6 < cc (k / 6)) (h2 : cn k = x) (h3 : P (cp k) = true) : zu (iFp cc cn cp P x mo k) k (cp k + mo) = iFp cc cn cp P x mo (k + 1) := by
  funext j
  simp only [zu, iFp]
  by_cases c : j = k
  · subst c
    rw [if_pos rfl, if_pos ⟨h0, by omega, h1, h2, h3⟩]
  · rw [if_neg c]
    by_cases q : j < k
    · simp only [q, show j < k + 1 by omega]
    · simp only [q, show ¬ j < k + 1 by omega]
theorem iFn_miss {cc cn cp : Int → Int} {P : Int → Bool} {x x2 k k2 : Int} (hk : k ≤ k2) (h : ∀ j, k ≤ j → j < k2 → ¬ (j % 6 < cc (j / 6) ∧ cn j = x ∧ P (cp j) = true)) : iFn cc cn cp P x x2 k = iFn cc cn cp P x x2 k2 := by
  funext j
  simp only [iFn]
  by_cases q : 0 ≤ j ∧ j < k ∧ j % 6 < cc (j / 6) ∧ cn j = x ∧ P (cp j) = true
  · rw [if_pos q, if_pos ⟨q.1, by omega, q.2.2⟩]
  · rw [if_neg q, if_neg (fun z => by
      by_cases q2 : j < k
      · exact q ⟨z.1, q2, z.2.2⟩
      · exact h j (by omega) z.2.1 z.2.2)]
theorem iFp_miss {cc cn cp : Int → Int} {P : Int → Bool} {x mo k k2 : Int} (hk : k ≤ k2) (h : ∀ j, k ≤ j → j < k2 → ¬ (j % 6 < cc (j / 6) ∧ cn j = x ∧ P (cp j) = true)) : iFp cc cn cp P x mo k = iFp cc cn cp P x mo k2 := by
  funext j
  simp only [iFp]
  by_cases q : 0 ≤ j ∧ j < k ∧ j % 6 < cc (j / 6) ∧ cn j = x ∧ P (cp j) = true
  · rw [if_pos q, if_pos ⟨q.1, by omega, q.2.2⟩]
  · rw [if_neg q, if_neg (fun z => by
      by_cases q2 : j < k
      · exact q ⟨z.1, q2, z.2.2⟩
      · exact h j (by omega) z.2.1 z.2.2)]
/-- those that are not lost, closed up: how many of the first c, and the rows behind c of them -/
def iLf (lo : Int → Int) (a c : Int) : Int := zsum (fun b => b2i (decide (lo (6 * a + b) = 0))) c
def iClF (src lo : Int → Int) (a : Int) : Nat → Int → Int
  | 0 => src
  | n + 1 => if lo (6 * a + n) = 0 then zu (iClF src lo a n) (6 * a + iLf lo a n) (src (6 * a + n)) else iClF src lo a n
def iCl (src lo : Int → Int) (a c : Int) : Int → Int := iClF src lo a c.toNat
theorem iCl_0 (src lo : Int → Int) (a : Int) : iCl src lo a 0 = src := rfl
theorem iCl_1 {src lo : Int → Int} {a c : Int} (h : 0 ≤ c) : iCl src lo a (c + 1) = if lo (6 * a + c) = 0 then zu (iCl src lo a c) (6 * a + iLf lo a c) (src (6 * a + c)) else iCl src lo a c := by
  unfold iCl
  rw [show (c + 1).toNat = c.toNat + 1 by omega, iClF, Int.toNat_of_nonneg h]
theorem iLf_rng (lo : Int → Int) (a : Int) {c : Int} (h : 0 ≤ c) : 0 ≤ iLf lo a c ∧ iLf lo a c ≤ c := by
  have r := zsum_rng (h := fun b => b2i (decide (lo (6 * a + b) = 0))) (c := 1) h (fun j _ _ => by
    have := b2i_rng (decide (lo (6 * a + j) = 0))
    show 0 ≤ b2i _ ∧ b2i _ ≤ 1
    omega)
  unfold iLf
  omega
theorem iLf_1 {lo : Int → Int} {a c : Int} (h : 0 ≤ c) : iLf lo a (c + 1) = iLf lo a c + b2i (decide (lo (6 * a + c) = 0)) := by
  unfold iLf
  rw [zsum_1 _ h]
theorem iClF_ge {src lo : Int → Int} {a : Int} : ∀ (n : Nat) (j : Int), 6 * a + n ≤ j → iClF src lo a n j = src j
  | 0, j, _ => rfl
  | n + 1, j, h => by
    have r := iLf_rng lo a (c := (n : Int)) (by omega)
    have ih := iClF_ge (src := src) (lo := lo) (a := a) n j (by omega)
    rw [iClF]
    by_cases q : lo (6 * a + n) = 0
    · rw [if_pos q, zu_ne _ _ (by omega), ih]
    · rw [if_neg q, ih]
theorem iCl_ge {src lo : Int → Int} {a c j : Int} (h : 0 ≤ c) (hj : 6 * a + c ≤ j) : iCl src lo a c j = src j := by
  unfold iCl
  exact iClF_ge _ _ (by omega)
end ZIL
