/-! what the reference's row of ints says: f 0 the setting, f 1 how many exhibits, f 2 the next number, then exhibits and paragraphs -/
section ZS
def sPl (f : Int → Int) (x : Int) : Int := zfind (fun k => f (2 * k + 3)) x (f 1)
def sLet (f : Int → Int) (a b : Int) : Int := sPl f (f (32 * a + 2 * b + 66))
def sLost (f : Int → Int) (a b : Int) : Bool := decide (sLet f a b = -1 ∨ f (2 * sLet f a b + 4) < f (32 * a + 2 * b + 67))
def sLostN (f : Int → Int) (a : Int) : Int := zsum (fun b => b2i (sLost f a b)) (f (32 * a + 65))
def sAllLost (f : Int → Int) : Int := zsum (fun a => sLostN f a) 12
def sMis (f : Int → Int) (a b : Int) : Bool := decide (f (32 * a + 3 * b + 79) ≠ sLet f a b ∨ f (32 * a + 3 * b + 80) ≠ f (32 * a + 2 * b + 67) ∨ f (32 * a + 3 * b + 81) ≠ b2i (sLost f a b))
def sStale (f : Int → Int) (a : Int) : Bool := decide (f (32 * a + 78) ≠ f (32 * a + 65)) || zany (fun b => sMis f a b) (f (32 * a + 65))
def sStaleN (f : Int → Int) : Int := zsum (fun a => b2i (sStale f a)) 12
/-- binder, tab, pages in the binder, pages ahead, of the exhibit at a place -/
def zlie (h : Int → Int) (lim : Int) : Nat → Int × Int × Int × Int
  | 0 => (0, 0, h 0, 0)
  | n + 1 => if lim < (zlie h lim n).2.2.1 + h (n + 1) then ((zlie h lim n).1 + 1, 0, h (n + 1), (zlie h lim n).2.2.2 + h n) else ((zlie h lim n).1, (zlie h lim n).2.1 + 1, (zlie h lim n).2.2.1 + h (n + 1), (zlie h lim n).2.2.2 + h n)
def zBn (h : Int → Int) (lim k : Int) : Int := (zlie h lim k.toNat).1
def zTb (h : Int → Int) (lim k : Int) : Int := (zlie h lim k.toNat).2.1
def zPg (h : Int → Int) (lim k : Int) : Int := (zlie h lim k.toNat).2.2.1
def zSm (h : Int → Int) (lim k : Int) : Int := (zlie h lim k.toNat).2.2.2
theorem zBn_0 (h : Int → Int) (lim : Int) : zBn h lim 0 = 0 := rfl
theorem zTb_0 (h : Int → Int) (lim : Int) : zTb h lim 0 = 0 := rfl
theorem zPg_0 (h : Int → Int) (lim : Int) : zPg h lim 0 = h 0 := rfl
theorem zSm_0 (h : Int → Int) (lim : Int) : zSm h lim 0 = 0 := rfl
theorem zlie_opens {h : Int → Int} {lim k : Int} (hk : 0 ≤ k) (c : lim < zPg h lim k + h (k + 1)) : zBn h lim (k + 1) = zBn h lim k + 1 ∧ zTb h lim (k + 1) = 0 ∧ zPg h lim (k + 1) = h (k + 1) ∧ zSm h lim (k + 1) = zSm h lim k + h k := by
  have e : (k + 1).toNat = k.toNat + 1 := by omega
  have ek : ((k.toNat : Nat) : Int) = k := Int.toNat_of_nonneg hk
  unfold zPg at c
  unfold zBn zTb zPg zSm
  rw [e, zlie, ek, if_pos c]
  exact ⟨rfl, rfl, rfl, rfl⟩
theorem zlie_goes {h : Int → Int} {lim k : Int} (hk : 0 ≤ k) (c : zPg h lim k + h (k + 1) ≤ lim) : zBn h lim (k + 1) = zBn h lim k ∧ zTb h lim (k + 1) = zTb h lim k + 1 ∧ zPg h lim (k + 1) = zPg h lim k + h (k + 1) ∧ zSm h lim (k + 1) = zSm h lim k + h k := by
  have e : (k + 1).toNat = k.toNat + 1 := by omega
  have ek : ((k.toNat : Nat) : Int) = k := Int.toNat_of_nonneg hk
  unfold zPg at c
  unfold zBn zTb zPg zSm
  rw [e, zlie, ek, if_neg (Int.not_lt.mpr c)]
  exact ⟨rfl, rfl, rfl, rfl⟩
theorem zPg_rng {h : Int → Int} {lim c : Int} (n : Int) (hh : ∀ j, 0 ≤ j → j < n → 0 ≤ h j ∧ h j ≤ c) (hc : 0 ≤ c) (hl : 0 ≤ lim) : ∀ m : Nat, (m : Int) < n → 0 ≤ zPg h lim m ∧ (zPg h lim m ≤ lim ∨ zPg h lim m ≤ c)
  | 0, hm => by
    have h0 := hh 0 (by omega) (by omega)
    have e : zPg h lim ((0 : Nat) : Int) = h 0 := rfl
    rw [e]
    omega
  | m + 1, hm => by
    have ih := zPg_rng n hh hc hl m (by omega)
    have hx := hh ((m : Int) + 1) (by omega) (by omega)
    by_cases q : lim < zPg h lim m + h ((m : Int) + 1)
    · have s := (zlie_opens (h := h) (lim := lim) (k := (m : Int)) (by omega) q).2.2.1
      rw [show ((m + 1 : Nat) : Int) = (m : Int) + 1 by omega, s]
      omega
    · have s := (zlie_goes (h := h) (lim := lim) (k := (m : Int)) (by omega) (by omega)).2.2.1
      rw [show ((m + 1 : Nat) : Int) = (m : Int) + 1 by omega, s]
      omega
theorem zPg_rng' {h : Int → Int} {lim c n k : Int} (hh : ∀ j, 0 ≤ j → j < n → 0 ≤ h j ∧ h j ≤ c) (hc : 0 ≤ c) (hl : 0 ≤ lim) (h0 : 0 ≤ k) (h1 : k < n) : 0 ≤ zPg h lim k ∧ (zPg h lim k ≤ lim ∨ zPg h lim k ≤ c) := by
  have r := zPg_rng (lim := lim) n hh hc hl k.toNat (by omega)
  rw [Int.toNat_of_nonneg h0] at r
  exact r
theorem zBn_rng {h : Int → Int} {lim : Int} : ∀ m : Nat, 0 ≤ zBn h lim m ∧ zBn h lim m ≤ m
  | 0 => by
    have e : zBn h lim ((0 : Nat) : Int) = 0 := rfl
    rw [e]
    omega
  | m + 1 => by
    have ih := zBn_rng (h := h) (lim := lim) m
    rw [show ((m + 1 : Nat) : Int) = (m : Int) + 1 by omega]
    by_cases q : lim < zPg h lim m + h ((m : Int) + 1)
    · have s := (zlie_opens (h := h) (lim := lim) (k := (m : Int)) (by omega) q).1
      omega
    · have s := (zlie_goes (h := h) (lim := lim) (k := (m : Int)) (by omega) (by omega)).1
      omega
theorem zBn_rng' {h : Int → Int} {lim k : Int} (h0 : 0 ≤ k) : 0 ≤ zBn h lim k ∧ zBn h lim k ≤ k := by
  have r := zBn_rng (h := h) (lim := lim) k.toNat
  rw [Int.toNat_of_nonneg h0] at r
  exact r
def zFp (h : Int → Int) (lim k : Int) : Int := zSm h lim k + k + 1 + 2 * zBn h lim k
def zLies (h : Int → Int) (lim k w : Int) : Int := if w = 0 then zBn h lim k else if w = 1 then zTb h lim k else zFp h lim k
def zBnd (h : Int → Int) (lim n : Int) : Int := if n = 0 then 0 else zBn h lim (n - 1) + 1
theorem zBnd_rng {h : Int → Int} {lim n : Int} (h0 : 0 ≤ n) : 0 ≤ zBnd h lim n ∧ zBnd h lim n ≤ n := by
  unfold zBnd
  by_cases c : n = 0
  · rw [if_pos c]; omega
  · rw [if_neg c]
    have := zBn_rng' (h := h) (lim := lim) (k := n - 1) (by omega)
    omega
/-- pages, as a function of the place -/
def sPg (f : Int → Int) : Int → Int := fun k => f (2 * k + 4)
/-- what reading alone wants of the row -/
def WR (f : Int → Int) : Prop := (∀ j, -2147483648 ≤ f j ∧ f j < 2147483648) ∧ (0 ≤ f 1 ∧ f 1 ≤ 31) ∧ (∀ a, 0 ≤ a → a < 12 → 0 ≤ f (32 * a + 65) ∧ f (32 * a + 65) ≤ 6) ∧ (∀ k, 0 ≤ k → k < f 1 → 1 ≤ f (2 * k + 4) ∧ f (2 * k + 4) ≤ 60) ∧ (0 ≤ f 0 ∧ f 0 ≤ 200)
theorem sPl_rng {f : Int → Int} (hw : WR f) (x : Int) : -1 ≤ sPl f x ∧ sPl f x < f 1 := zfind_rng _ _ hw.2.1.1
theorem sLet_rng {f : Int → Int} (hw : WR f) (a b : Int) : -1 ≤ sLet f a b ∧ sLet f a b < f 1 := sPl_rng hw _
theorem sLostN_rng {f : Int → Int} (hw : WR f) {a : Int} (h0 : 0 ≤ a) (h1 : a < 12) : 0 ≤ sLostN f a ∧ sLostN f a ≤ 6 := by
  have n := hw.2.2.1 a h0 h1
  have r := zsum_rng (h := fun b => b2i (sLost f a b)) (c := 1) n.1 (fun j _ _ => by
    have := b2i_rng (sLost f a j)
    omega)
  unfold sLostN
  omega
theorem sAllLost_rng {f : Int → Int} (hw : WR f) : 0 ≤ sAllLost f ∧ sAllLost f ≤ 72 := by
  have r := zsum_rng (h := fun a => sLostN f a) (c := 6) (n := 12) (by omega) (fun j h0 h1 => sLostN_rng hw h0 h1)
  unfold sAllLost
  omega
theorem sStaleN_rng (f : Int → Int) : 0 ≤ sStaleN f ∧ sStaleN f ≤ 12 := by
  have r := zsum_rng (h := fun a => b2i (sStale f a)) (c := 1) (n := 12) (by omega) (fun j _ _ => by
    have := b2i_rng (sStale f j)
    omega)
  unfold sStaleN
  omega
theorem zcpy_1 (f h : Int → Int) {sp dp k : Int} (hk : 0 ≤ k) : zu (zcpy f h sp dp k) (dp + k) (f (sp + k)) = zcpy f h sp dp (k + 1) := by
  funext j
  simp only [zu, zcpy]
  by_cases c : j = dp + k
  · rw [if_pos c, if_pos (by omega), c]
    congr 1
    omega
  · rw [if_neg c]
    by_cases c2 : dp ≤ j ∧ j < dp + k
    · rw [if_pos c2, if_pos (by omega)]
    · rw [if_neg c2, if_neg (by omega)]
theorem zcpy_0 (f h : Int → Int) (sp dp : Int) : zcpy f h sp dp 0 = h := by
  funext j
  simp only [zcpy]
  rw [if_neg (by omega)]
theorem sStale_up {f : Int → Int} {a k v : Int} (hv : v = b2i (decide (f (32 * a + 78) ≠ f (32 * a + 65)) || zany (fun b => sMis f a b) k)) (hk : k ≤ f (32 * a + 65)) (hne : v ≠ 0) : v = b2i (sStale f a) := by
  have h1 : (decide (f (32 * a + 78) ≠ f (32 * a + 65)) || zany (fun b => sMis f a b) k) = true := b2i_ne0.mp (by rw [← hv]; exact hne)
  have h2 : sStale f a = true := by
    unfold sStale
    rw [Bool.or_eq_true] at h1 ⊢
    rcases h1 with h | h
    · exact Or.inl h
    · obtain ⟨j, j0, j1, j2⟩ := zany_iff.mp h
      exact Or.inr (zany_iff.mpr ⟨j, j0, by omega, j2⟩)
  rw [hv, h1, h2]
end ZS
