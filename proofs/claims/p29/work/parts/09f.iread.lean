/-! what the class's reading parts tell, by its own rows -/
section ZIR
def iCo (cc lt : Int → Int) (p : Int) : Int := zsum (fun a => zsum (fun b => b2i (decide (lt (6 * a + b) = p))) (cc a)) 12
def iGi (cc lt lo : Int → Int) (a p : Int) : Int := zsum (fun b => b2i (decide (lt (6 * a + b) = p ∧ lo (6 * a + b) = 0))) (cc a)
def iGo (cc lt lo : Int → Int) (p : Int) : Int := zsum (fun a => iGi cc lt lo a p) 12
def iCe (cc lt lo : Int → Int) (n : Int) : Int := zsum (fun k => b2i (decide (0 < iGo cc lt lo k))) n
def iLi (cc lo : Int → Int) (a : Int) : Int := zsum (fun b => b2i (decide (lo (6 * a + b) ≠ 0))) (cc a)
def iAl (cc lo : Int → Int) : Int := zsum (fun a => iLi cc lo a) 12
/-- the letter then, where the exhibits stood at new places; and whether it is lost then -/
def iNl (np lt : Int → Int) (k : Int) : Int := if lt k = -1 then -1 else np (lt k)
def iNx (np lt lo : Int → Int) (k : Int) : Int := b2i (decide (iNl np lt k = -1 ∨ lo k ≠ 0))
def iMis (np lt lo cp pm : Int → Int) (k : Int) : Bool := decide (122 * iNl np lt k + 2 * cp k + iNx np lt lo k + 122 ≠ pm k)
def iSt (np lt lo cc cp pn pm : Int → Int) (a : Int) : Bool := decide (pn a ≠ cc a) || zany (fun b => iMis np lt lo cp pm (6 * a + b)) (cc a)
def iSn (np lt lo cc cp pn pm : Int → Int) : Int := zsum (fun a => b2i (iSt np lt lo cc cp pn pm a)) 12
theorem iGi_rng {cc lt lo : Int → Int} {a p : Int} (h : 0 ≤ cc a ∧ cc a ≤ 6) : 0 ≤ iGi cc lt lo a p ∧ iGi cc lt lo a p ≤ 6 := by
  have r := zsum_rng (h := fun b => b2i (decide (lt (6 * a + b) = p ∧ lo (6 * a + b) = 0))) (c := 1) h.1 (fun j _ _ => by
    have := b2i_rng (decide (lt (6 * a + j) = p ∧ lo (6 * a + j) = 0))
    show 0 ≤ b2i _ ∧ b2i _ ≤ 1
    omega)
  unfold iGi
  omega
theorem iGo_rng {cc lt lo : Int → Int} {p : Int} (h : ∀ a, 0 ≤ a → a < 12 → 0 ≤ cc a ∧ cc a ≤ 6) : 0 ≤ iGo cc lt lo p ∧ iGo cc lt lo p ≤ 72 := by
  have r := zsum_rng (h := fun a => iGi cc lt lo a p) (c := 6) (n := 12) (by omega) (fun j h0 h1 => iGi_rng (h j h0 h1))
  unfold iGo
  omega
end ZIR
section ZIR2
/-- one more exhibit among binders: x3, x4 the binder and its pages as the walk has them where it adds the exhibit -/
theorem zBnd_step {pg : Int → Int} {lim kk x3 x4 y3 y4 : Int} (hk : 0 ≤ kk) (h3 : y3 = zBnd pg lim kk) (h4 : kk = 0 ∧ y4 = 0 ∨ 0 < kk ∧ y4 = zPg pg lim (kk - 1))
    (h : ((kk = 0 ∨ lim < y4 + pg kk) ∧ x3 = y3 + 1 ∧ x4 = 0) ∨ (kk ≠ 0 ∧ y4 + pg kk ≤ lim ∧ x3 = y3 ∧ x4 = y4)) : x3 = zBnd pg lim (kk + 1) ∧ pg kk + x4 = zPg pg lim (kk + 1 - 1) := by
  have e1 : kk + 1 - 1 = kk := by omega
  have e2 : zBnd pg lim (kk + 1) = zBn pg lim kk + 1 := by
    unfold zBnd
    rw [if_neg (by omega), e1]
  rw [e1, e2]
  by_cases c0 : kk = 0
  · subst c0
    have z1 : zBn pg lim 0 = 0 := rfl
    have z2 : zPg pg lim 0 = pg 0 := rfl
    have z3 : zBnd pg lim 0 = 0 := rfl
    rw [z1, z2]
    rw [z3] at h3
    omega
  · have ek : kk - 1 + 1 = kk := by omega
    have e3 : zBnd pg lim kk = zBn pg lim (kk - 1) + 1 := by
      unfold zBnd
      rw [if_neg c0]
    have hy : y4 = zPg pg lim (kk - 1) := by omega
    rw [e3] at h3
    rcases h with ⟨h5, h6, h7⟩ | ⟨h5, h6, h7, h8⟩
    · have s := zlie_opens (h := pg) (lim := lim) (k := kk - 1) (by omega) (by rw [ek]; omega)
      rw [ek] at s
      omega
    · have s := zlie_goes (h := pg) (lim := lim) (k := kk - 1) (by omega) (by rw [ek]; omega)
      rw [ek] at s
      omega
end ZIR2
