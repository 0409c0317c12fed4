/-! what the reference's looks tell -/
section ZML
def sCb (f : Int → Int) (p al a b : Int) : Int := b2i (decide (sLet f a b = p ∧ (al ≠ 0 ∨ sLost f a b = false)))
def sCby (f : Int → Int) (p al : Int) : Int := zsum (fun a => zsum (fun b => sCb f p al a b) (f (32 * a + 65))) 12
def sUnc (f : Int → Int) : Int := zsum (fun k => b2i (decide (sCby f k 0 = 0))) (f 1)
def sOfE (f : Int → Int) (p w : Int) : Int := if w = 0 then f (2 * p + 3) else if w = 1 then f (2 * p + 4) else if w < 5 then zLies (sPg f) (f 0) p (w - 2) else sCby f p 1
def sOfC (f : Int → Int) (a b w : Int) : Int := if w = 0 then f (32 * a + 2 * b + 66) else if w = 1 then sLet f a b else if w = 2 then f (32 * a + 2 * b + 67) else if w = 3 then b2i (sLost f a b) else if sLost f a b = true then -1 else zFp (sPg f) (f 0) (sLet f a b) + f (32 * a + 2 * b + 67) - 1
def sOfP (f : Int → Int) (a w : Int) : Int := if w = 0 then f (32 * a + 65) else if w = 1 then sLostN f a else if w = 2 then b2i (sStale f a) else f (32 * a + 78)
def sPgs (f : Int → Int) : Int := zsum (sPg f) (f 1)
def sCts (f : Int → Int) : Int := zsum (fun a => f (32 * a + 65)) 12
def sBds (f : Int → Int) : Int := zBnd (sPg f) (f 0) (f 1)
def sCnt (f : Int → Int) (k w : Int) : Int := if w = 0 then f 1 else if w = 1 then sPgs f else if w = 2 then sBds f else if w = 3 then sCts f else if w = 4 then sAllLost f else if w = 5 then sStaleN f else if w = 6 then sUnc f else if w = 7 then f 0 else k
def sIns (f : Int → Int) (p y w : Int) : Int := if w = 0 then sStaleN (mCome f p y) else sBds (mCome f p y)
def sDrp (f : Int → Int) (p w : Int) : Int := if w = 0 then sAllLost (mOut f p) - sAllLost f else sStaleN (mOut f p)
def sScore (f : Int → Int) (p t : Int) : Int := 100 * sStaleN (mMove f p t) + sBds (mMove f p t)
def zargF (h : Int → Int) : Nat → Int
  | 0 => -1
  | n + 1 => if zargF h n = -1 ∨ h n < h (zargF h n) then (n : Int) else zargF h n
def zarg (h : Int → Int) (n : Int) : Int := zargF h n.toNat
theorem zarg_0 (h : Int → Int) : zarg h 0 = -1 := rfl
theorem zarg_1 (h : Int → Int) {n : Int} (hn : 0 ≤ n) : zarg h (n + 1) = if zarg h n = -1 ∨ h n < h (zarg h n) then n else zarg h n := by
  have e : (n + 1).toNat = n.toNat + 1 := by omega
  unfold zarg
  rw [e, zargF, Int.toNat_of_nonneg hn]
theorem zargF_rng (h : Int → Int) : ∀ n : Nat, -1 ≤ zargF h n ∧ zargF h n < n
  | 0 => by simp [zargF]
  | n + 1 => by
    have ih := zargF_rng h n
    rw [zargF]
    split <;> omega
theorem zarg_rng (h : Int → Int) {n : Int} (hn : 0 ≤ n) : -1 ≤ zarg h n ∧ zarg h n < n := by
  have r := zargF_rng h n.toNat
  unfold zarg
  omega
def sBest (f : Int → Int) (p : Int) : Int := zarg (fun t => sScore f p t) (f 1)
def sLea (f : Int → Int) (m : Int) : Int := zfind (fun k => b2i (decide (zBnd (sPg f) (k + 10) (f 1) ≤ m))) 1 191
def sLeast (f : Int → Int) (m : Int) : Int := if sLea f m = -1 then -1 else sLea f m + 10
def kExh (p w : Int) : Int := if p < 0 then 1 else if ¬ (0 ≤ w ∧ w ≤ 5) then 1 else 0
def kCtn (a b w : Int) : Int := if ¬ (0 ≤ a ∧ a < 12) then 1 else if b < 0 then 2 else if ¬ (0 ≤ w ∧ w ≤ 4) then 2 else 0
def kPrg (a w : Int) : Int := if ¬ (0 ≤ a ∧ a < 12) then 1 else if ¬ (0 ≤ w ∧ w ≤ 3) then 2 else 0
def kCnt (w : Int) : Int := if ¬ (0 ≤ w ∧ w ≤ 8) then 1 else 0
def kIfI (f : Int → Int) (p y w : Int) : Int := if ¬ (0 ≤ p ∧ p ≤ f 1) then 1 else if ¬ (1 ≤ y ∧ y ≤ 60) then 2 else if ¬ (0 ≤ w ∧ w ≤ 1) then 2 else 0
def kIfD (f : Int → Int) (p w : Int) : Int := if ¬ (0 ≤ p ∧ p < f 1) then 1 else if ¬ (0 ≤ w ∧ w ≤ 1) then 2 else 0
def kLea (m : Int) : Int := if ¬ (1 ≤ m ∧ m ≤ 30) then 1 else 0
theorem sCby_rng {f : Int → Int} (hw : WR f) (p al : Int) : 0 ≤ sCby f p al ∧ sCby f p al ≤ 72 := by
  have r := zsum_rng (h := fun a => zsum (fun b => sCb f p al a b) (f (32 * a + 65))) (c := 6) (n := 12) (by omega) (fun j h0 h1 => by
    have n := hw.2.2.1 j h0 h1
    have r := zsum_rng (h := fun b => sCb f p al j b) (c := 1) n.1 (fun b _ _ => by
      have := b2i_rng (decide (sLet f j b = p ∧ (al ≠ 0 ∨ sLost f j b = false)))
      show 0 ≤ b2i _ ∧ b2i _ ≤ 1
      omega)
    show 0 ≤ zsum (fun b => sCb f p al j b) (f (32 * j + 65)) ∧ zsum (fun b => sCb f p al j b) (f (32 * j + 65)) ≤ 6
    omega)
  unfold sCby
  omega
theorem sUnc_rng {f : Int → Int} (hw : WR f) : 0 ≤ sUnc f ∧ sUnc f ≤ f 1 := by
  have r := zsum_rng (h := fun k => b2i (decide (sCby f k 0 = 0))) (c := 1) hw.2.1.1 (fun j _ _ => by
    have := b2i_rng (decide (sCby f j 0 = 0))
    show 0 ≤ b2i _ ∧ b2i _ ≤ 1
    omega)
  unfold sUnc
  omega
theorem sBds_rng {f : Int → Int} (hw : WR f) : 0 ≤ sBds f ∧ sBds f ≤ 31 := by
  have r := zBnd_rng (h := sPg f) (lim := f 0) hw.2.1.1
  unfold sBds
  have := hw.2.1
  omega
/-- powers of two -/
def zp2 (a : Int) : Int := 2 ^ a.toNat
theorem zp2_0 : zp2 0 = 1 := rfl
theorem zp2_1 {a : Int} (h : 0 ≤ a) : zp2 (a + 1) = 2 * zp2 a := by
  unfold zp2
  rw [show (a + 1).toNat = a.toNat + 1 by omega, Int.pow_succ, Int.mul_comm]
theorem zp2_cases {a : Int} (h0 : 0 ≤ a) (h1 : a < 12) : a = 0 ∨ a = 1 ∨ a = 2 ∨ a = 3 ∨ a = 4 ∨ a = 5 ∨ a = 6 ∨ a = 7 ∨ a = 8 ∨ a = 9 ∨ a = 10 ∨ a = 11 := by omega
theorem zp2_shl {a : Int} (h0 : 0 ≤ a) (h1 : a < 12) : iZ 1 <<< (iZ a &&& 31) = iZ (zp2 a) := by
  rcases zp2_cases h0 h1 with h | h | h | h | h | h | h | h | h | h | h | h <;> subst h <;> decide
theorem zp2_rng {a : Int} (h0 : 0 ≤ a) (h1 : a < 12) : 1 ≤ zp2 a ∧ zp2 a ≤ 2048 := by
  rcases zp2_cases h0 h1 with h | h | h | h | h | h | h | h | h | h | h | h <;> subst h <;> decide
theorem wR_come {f : Int → Int} {cap p y : Int} (h : WF f cap) (hc : cap ≤ 100000) (hp : 0 ≤ p ∧ p ≤ f 1) (hy : 1 ≤ y ∧ y ≤ 60) : WR (mCome f p y) := by
  have hn := h.n
  have hx := h.nx
  have e1 : mCome f p y 1 = f 1 + 1 := by
    simp only [mCome]
    rw [zu_ne _ _ (by omega)]
    simp [mPut]
  refine ⟨fun j => ?_, by rw [e1]; omega, fun a h0 h9 => ?_, fun k h0 h9 => ?_, ?_⟩
  · have r0 := h.rg j
    have r2 := h.rg (j - 2)
    simp only [mCome, zu, mPut]
    (repeat' split) <;> omega
  · have e : mCome f p y (32 * a + 65) = f (32 * a + 65) := by
      simp only [mCome]
      rw [zu_ne _ _ (by omega)]
      simp only [mPut]
      rw [if_neg (by omega), if_neg (by omega), if_neg (by omega), if_neg (by omega)]
    have := h.pa a h0 h9
    rw [e]
    omega
  · rw [e1] at h9
    by_cases c1 : k = p
    · have e : mCome f p y (2 * k + 4) = y := by
        simp only [mCome]
        rw [zu_ne _ _ (by omega)]
        simp only [mPut]
        rw [if_neg (by omega), if_neg (by omega), if_pos (by omega)]
      rw [e]
      omega
    · by_cases c2 : p < k
      · have e : mCome f p y (2 * k + 4) = f (2 * (k - 1) + 4) := by
          simp only [mCome]
          rw [zu_ne _ _ (by omega)]
          simp only [mPut]
          rw [if_neg (by omega), if_neg (by omega), if_neg (by omega), if_pos (by omega)]
          congr 1
          omega
        have := h.ex (k - 1) (by omega) (by omega)
        rw [e]
        omega
      · have e : mCome f p y (2 * k + 4) = f (2 * k + 4) := by
          simp only [mCome]
          rw [zu_ne _ _ (by omega)]
          simp only [mPut]
          rw [if_neg (by omega), if_neg (by omega), if_neg (by omega), if_neg (by omega)]
        have := h.ex k (by omega) (by omega)
        rw [e]
        omega
  · have e : mCome f p y 0 = f 0 := by
      simp only [mCome]
      rw [zu_ne _ _ (by omega)]
      simp only [mPut]
      rw [if_neg (by omega), if_neg (by omega), if_neg (by omega), if_neg (by omega)]
    have := h.bp
    rw [e]
    omega
theorem wR_move {f : Int → Int} {cap p t : Int} (h : WF f cap) (hp : 0 ≤ p ∧ p < f 1) (ht : 0 ≤ t ∧ t < f 1) : WR (mMove f p t) := by
  have hn := h.n
  have w := mOut_wr h.wr (by omega : 0 ≤ p ∧ p < f 1)
  have eo : mOut f p 1 = f 1 - 1 := by simp [mOut]
  have e1 : mMove f p t 1 = f 1 := by
    simp only [mMove, mPut, if_true]
    rw [eo]
    omega
  have hpg := h.ex p hp.1 hp.2
  refine ⟨fun j => ?_, by rw [e1]; omega, fun a h0 h9 => ?_, fun k h0 h9 => ?_, ?_⟩
  · have r0 := w.1 j
    have r2 := w.1 (j - 2)
    have r3 := h.rg (2 * p + 3)
    have r4 := h.rg (2 * p + 4)
    simp only [mMove, mPut]
    (repeat' split) <;> omega
  · have e : mMove f p t (32 * a + 65) = mOut f p (32 * a + 65) := by
      simp only [mMove, mPut]
      rw [if_neg (by omega), if_neg (by omega), if_neg (by omega), if_neg (by omega)]
    rw [e]
    exact w.2.2.1 a h0 h9
  · rw [e1] at h9
    by_cases c1 : k = t
    · have e : mMove f p t (2 * k + 4) = f (2 * p + 4) := by
        simp only [mMove, mPut]
        rw [if_neg (by omega), if_neg (by omega), if_pos (by omega)]
      rw [e]
      omega
    · by_cases c2 : t < k
      · have e : mMove f p t (2 * k + 4) = mOut f p (2 * (k - 1) + 4) := by
          simp only [mMove, mPut]
          rw [if_neg (by omega), if_neg (by omega), if_neg (by omega), if_pos (by omega)]
          congr 1
          omega
        rw [e]
        exact w.2.2.2.1 (k - 1) (by omega) (by omega)
      · have e : mMove f p t (2 * k + 4) = mOut f p (2 * k + 4) := by
          simp only [mMove, mPut]
          rw [if_neg (by omega), if_neg (by omega), if_neg (by omega), if_neg (by omega)]
        rw [e]
        exact w.2.2.2.1 k (by omega) (by omega)
  · have e : mMove f p t 0 = mOut f p 0 := by
      simp only [mMove, mPut]
      rw [if_neg (by omega), if_neg (by omega), if_neg (by omega), if_neg (by omega)]
    rw [e]
    exact w.2.2.2.2
theorem zlie_cong {h h2 : Int → Int} {lim : Int} : ∀ n : Nat, (∀ j : Int, 0 ≤ j → j ≤ n → h j = h2 j) → zlie h lim n = zlie h2 lim n
  | 0, e => by
    unfold zlie
    rw [e 0 (by omega) (by omega)]
  | n + 1, e => by
    unfold zlie
    rw [zlie_cong n (fun j h0 h1 => e j h0 (by omega)), e n (by omega) (by omega), e (n + 1) (by omega) (by omega)]
theorem zBnd_cong {h h2 : Int → Int} {lim n : Int} (e : ∀ j : Int, 0 ≤ j → j < n → h j = h2 j) : zBnd h lim n = zBnd h2 lim n := by
  unfold zBnd
  by_cases c : n = 0
  · rw [if_pos c, if_pos c]
  · rw [if_neg c, if_neg c]
    by_cases c2 : 0 ≤ n
    · unfold zBn
      rw [zlie_cong _ (fun j h0 h1 => e j h0 (by omega))]
    · unfold zBn
      rw [show (n - 1).toNat = 0 by omega]
      rfl
end ZML
section ZMLB
def sTb (f : Int → Int) (p a b : Int) : Bool := decide (sLet f a b = p ∧ sLost f a b = false)
def sMk (f : Int → Int) (p a : Int) : Int := zsum (fun a => zp2 a * b2i (zany (fun b => sTb f p a b) (f (32 * a + 65)))) a
def sRow (f : Int → Int) (p : Int) : Int := sMk f p 12
theorem sMk_rng (f : Int → Int) (p : Int) : ∀ n : Nat, 0 ≤ sMk f p n ∧ sMk f p n < zp2 n
  | 0 => by
    have e : sMk f p ((0 : Nat) : Int) = 0 := rfl
    rw [e]
    decide
  | n + 1 => by
    have ih := sMk_rng f p n
    have e : sMk f p ((n + 1 : Nat) : Int) = sMk f p n + zp2 n * b2i (zany (fun b => sTb f p n b) (f (32 * n + 65))) := by
      rw [show ((n + 1 : Nat) : Int) = (n : Int) + 1 by omega]
      unfold sMk
      rw [zsum_1 _ (by omega)]
    rw [e, show ((n + 1 : Nat) : Int) = (n : Int) + 1 by omega, zp2_1 (by omega)]
    rcases b2i_rng (zany (fun b => sTb f p n b) (f (32 * n + 65))) with h | h <;> rw [h] <;> omega
theorem sMk_rng' (f : Int → Int) (p : Int) {a : Int} (h : 0 ≤ a) : 0 ≤ sMk f p a ∧ sMk f p a < zp2 a := by
  have r := sMk_rng f p a.toNat
  rw [Int.toNat_of_nonneg h] at r
  exact r
theorem iZ_nat {n : Nat} (h : n < 2147483648) : iZ (n : Int) = Int32.ofNat n := Int32.toInt_inj.mp (by rw [iZ_toInt (by omega)]; exact (toInt_of rfl (by omega)).symm)
theorem ofNat_or (a b : Nat) : Int32.ofNat a ||| Int32.ofNat b = Int32.ofNat (a ||| b) := by
  apply Int32.toBitVec_inj.mp
  simp [Int32.toBitVec_or, Int32.toBitVec_ofNat, BitVec.ofNat_or]
theorem zor_step {M a : Int} (h0 : 0 ≤ a) (h1 : a < 12) (hM : 0 ≤ M ∧ M < zp2 a) (t c : Bool) : iZ (M + zp2 a * b2i t) ||| iZ (zp2 a * b2i c) = iZ (M + zp2 a * b2i (t || c)) := by
  obtain ⟨m, rfl⟩ : ∃ m : Nat, M = (m : Int) := ⟨M.toNat, by omega⟩
  have ep : zp2 a = ((2 ^ a.toNat : Nat) : Int) := by
    unfold zp2
    rw [Int.natCast_pow]
    rfl
  have hq := zp2_rng h0 h1
  rw [ep] at hM hq ⊢
  generalize hk : a.toNat = k at hM hq ⊢
  have hm : m < 2 ^ k := by omega
  have hq2 : 2 ^ k ≤ 2048 := by omega
  have ho : 2 ^ k ||| m = 2 ^ k + m := by
    have := Nat.two_pow_add_eq_or_of_lt hm 1
    rw [Nat.mul_one] at this
    exact this.symm
  have hs : ((m : Int) + ((2 ^ k : Nat) : Int) * 1) = ((2 ^ k + m : Nat) : Int) := by omega
  have he : (((2 ^ k : Nat) : Int) * 1) = ((2 ^ k : Nat) : Int) := by omega
  have z0 : ∀ z : Int, z * 0 = ((0 : Nat) : Int) := fun z => by simp
  have za : (m : Int) + ((0 : Nat) : Int) = (m : Int) := by omega
  cases t <;> cases c
  · show iZ ((m : Int) + ((2 ^ k : Nat) : Int) * 0) ||| iZ (((2 ^ k : Nat) : Int) * 0) = iZ ((m : Int) + ((2 ^ k : Nat) : Int) * 0)
    rw [z0, za, iZ_nat (by omega), iZ_nat (by omega), ofNat_or, Nat.or_zero]
  · show iZ ((m : Int) + ((2 ^ k : Nat) : Int) * 0) ||| iZ (((2 ^ k : Nat) : Int) * 1) = iZ ((m : Int) + ((2 ^ k : Nat) : Int) * 1)
    rw [z0, za, hs, he, iZ_nat (by omega), iZ_nat (by omega), iZ_nat (by omega), ofNat_or, Nat.or_comm, ho]
  · show iZ ((m : Int) + ((2 ^ k : Nat) : Int) * 1) ||| iZ (((2 ^ k : Nat) : Int) * 0) = iZ ((m : Int) + ((2 ^ k : Nat) : Int) * 1)
    rw [z0, hs, iZ_nat (by omega), iZ_nat (by omega), ofNat_or, Nat.or_zero]
  · show iZ ((m : Int) + ((2 ^ k : Nat) : Int) * 1) ||| iZ (((2 ^ k : Nat) : Int) * 1) = iZ ((m : Int) + ((2 ^ k : Nat) : Int) * 1)
    rw [hs, he, iZ_nat (by omega), iZ_nat (by omega), ofNat_or, ← ho]
    congr 1
    rw [Nat.or_comm (2 ^ k) m, Nat.or_assoc, Nat.or_self]
end ZMLB
