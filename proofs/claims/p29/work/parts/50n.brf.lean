/-! p29: what the law's brief asks of a state -/
section ZMB
theorem lie_ind {h : Int → Int} {lim n : Int} (hh : ∀ j, 0 ≤ j → j < n → 1 ≤ h j ∧ h j ≤ 60) : ∀ m : Nat, (m : Int) < n → (0 ≤ zTb h lim m ∧ zTb h lim m ≤ m) ∧ (0 ≤ zSm h lim m ∧ zSm h lim m ≤ 60 * m) ∧ 1 ≤ zPg h lim m ∧ zPg h lim m ≤ 60 * m + 60
  | 0, hm => by
    have h0 := hh 0 (by omega) (by omega)
    have e1 : zTb h lim ((0 : Nat) : Int) = 0 := rfl
    have e2 : zSm h lim ((0 : Nat) : Int) = 0 := rfl
    have e3 : zPg h lim ((0 : Nat) : Int) = h 0 := rfl
    rw [e1, e2, e3]
    omega
  | m + 1, hm => by
    have ih := lie_ind (lim := lim) hh m (by omega)
    have hx := hh ((m : Int) + 1) (by omega) (by omega)
    have hy := hh (m : Int) (by omega) (by omega)
    rw [show ((m + 1 : Nat) : Int) = (m : Int) + 1 by omega]
    by_cases q : lim < zPg h lim m + h ((m : Int) + 1)
    · have s := zlie_opens (h := h) (lim := lim) (k := (m : Int)) (by omega) q
      rw [s.2.1, s.2.2.1, s.2.2.2]
      omega
    · have s := zlie_goes (h := h) (lim := lim) (k := (m : Int)) (by omega) (by omega)
      rw [s.2.1, s.2.2.1, s.2.2.2]
      omega
theorem lie_rng {f : Int → Int} {cap k : Int} (hw : WF f cap) (h0 : 0 ≤ k) (h1 : k < f 1) : (0 ≤ zBn (sPg f) (f 0) k ∧ zBn (sPg f) (f 0) k ≤ 30) ∧ (0 ≤ zTb (sPg f) (f 0) k ∧ zTb (sPg f) (f 0) k ≤ 30) ∧ (1 ≤ zPg (sPg f) (f 0) k ∧ zPg (sPg f) (f 0) k ≤ 1800) ∧ (1 ≤ zFp (sPg f) (f 0) k ∧ zFp (sPg f) (f 0) k ≤ 2000) ∧ (1 ≤ sPg f k ∧ sPg f k ≤ 60) ∧ (0 ≤ f (2 * k + 3) ∧ f (2 * k + 3) < f 2) := by
  have hn := hw.n
  have e := hw.ex k h0 h1
  have i := lie_ind (h := sPg f) (lim := f 0) (n := f 1) (fun j j0 j1 => (hw.ex j j0 j1).2.2) k.toNat (by omega)
  rw [Int.toNat_of_nonneg h0] at i
  have b := zBn_rng' (h := sPg f) (lim := f 0) h0
  have p : sPg f k = f (2 * k + 4) := rfl
  unfold zFp
  omega
theorem lie_cases {f : Int → Int} {k : Int} (h0 : 0 ≤ k) : (k = 0 ∧ zBn (sPg f) (f 0) k = 0 ∧ zTb (sPg f) (f 0) k = 0 ∧ zPg (sPg f) (f 0) k = sPg f k ∧ zFp (sPg f) (f 0) k = 1) ∨
    (1 ≤ k ∧ zBn (sPg f) (f 0) k = zBn (sPg f) (f 0) (k - 1) + 1 ∧ zTb (sPg f) (f 0) k = 0 ∧ zPg (sPg f) (f 0) k = sPg f k ∧ zFp (sPg f) (f 0) k = zFp (sPg f) (f 0) (k - 1) + sPg f (k - 1) + 3) ∨
    (1 ≤ k ∧ zBn (sPg f) (f 0) k = zBn (sPg f) (f 0) (k - 1) ∧ zTb (sPg f) (f 0) k = zTb (sPg f) (f 0) (k - 1) + 1 ∧ zPg (sPg f) (f 0) k = zPg (sPg f) (f 0) (k - 1) + sPg f k ∧ zPg (sPg f) (f 0) k ≤ f 0 ∧ zFp (sPg f) (f 0) k = zFp (sPg f) (f 0) (k - 1) + sPg f (k - 1) + 1) := by
  by_cases c : k = 0
  · subst c
    exact Or.inl ⟨rfl, rfl, rfl, rfl, rfl⟩
  · right
    by_cases q : f 0 < zPg (sPg f) (f 0) (k - 1) + sPg f (k - 1 + 1)
    · left
      have s := zlie_opens (h := sPg f) (lim := f 0) (k := k - 1) (by omega) q
      rw [show k - 1 + 1 = k by omega] at s
      unfold zFp
      rw [s.1, s.2.1, s.2.2.1, s.2.2.2]
      refine ⟨by omega, rfl, rfl, rfl, by omega⟩
    · right
      have s := zlie_goes (h := sPg f) (lim := f 0) (k := k - 1) (by omega) (by omega)
      rw [show k - 1 + 1 = k by omega] at s q
      unfold zFp
      rw [s.1, s.2.1, s.2.2.1, s.2.2.2]
      refine ⟨by omega, rfl, rfl, rfl, by omega, by omega⟩
theorem sSm_rng {f : Int → Int} {cap k : Int} (hw : WF f cap) (h0 : 0 ≤ k) (h1 : k ≤ f 1) : 0 ≤ zsum (sPg f) k ∧ zsum (sPg f) k ≤ 1800 := by
  have hn := hw.n
  have r := zsum_rng (h := sPg f) (c := 60) h0 (fun j j0 j1 => by
    have e := hw.ex j j0 (by omega)
    show 0 ≤ f (2 * j + 4) ∧ f (2 * j + 4) ≤ 60
    omega)
  omega
theorem sSums_rng {f : Int → Int} {cap a : Int} (hw : WF f cap) (h0 : 0 ≤ a) (h1 : a ≤ 12) : (0 ≤ zsum (fun a => f (32 * a + 65)) a ∧ zsum (fun a => f (32 * a + 65)) a ≤ 72) ∧ (0 ≤ zsum (fun a => sLostN f a) a ∧ zsum (fun a => sLostN f a) a ≤ 72) ∧ (0 ≤ zsum (fun a => b2i (sStale f a)) a ∧ zsum (fun a => b2i (sStale f a)) a ≤ 72) := by
  have r1 := zsum_rng (h := fun a => f (32 * a + 65)) (c := 6) h0 (fun j j0 j1 => by
    have e := hw.pa j j0 (by omega)
    show 0 ≤ f (32 * j + 65) ∧ f (32 * j + 65) ≤ 6
    omega)
  have r2 := zsum_rng (h := fun a => sLostN f a) (c := 6) h0 (fun j j0 j1 => sLostN_rng hw.wr j0 (by omega))
  have r3 := zsum_rng (h := fun a => b2i (sStale f a)) (c := 6) h0 (fun j j0 j1 => by
    have e := b2i_rng (sStale f j)
    show 0 ≤ b2i (sStale f j) ∧ b2i (sStale f j) ≤ 6
    omega)
  omega
theorem sLostN_le {f : Int → Int} {cap a : Int} (hw : WF f cap) (h0 : 0 ≤ a) (h1 : a < 12) : 0 ≤ sLostN f a ∧ sLostN f a ≤ f (32 * a + 65) := by
  have n := hw.pa a h0 h1
  have r := zsum_rng (h := fun b => b2i (sLost f a b)) (c := 1) n.1 (fun j _ _ => by
    have := b2i_rng (sLost f a j)
    show 0 ≤ b2i (sLost f a j) ∧ b2i (sLost f a j) ≤ 1
    omega)
  unfold sLostN
  omega
theorem sStale_new {f : Int → Int} {cap a : Int} (hw : WF f cap) (h0 : 0 ≤ a) (h1 : a < 12) : (0 ≤ b2i (sStale f a) ∧ b2i (sStale f a) ≤ 1) ∧ (f (32 * a + 78) < 0 → b2i (sStale f a) = 1) := by
  have n := hw.pa a h0 h1
  have r := b2i_rng (sStale f a)
  refine ⟨by omega, fun h => ?_⟩
  have e : sStale f a = true := by
    unfold sStale
    rw [decide_eq_true (show f (32 * a + 78) ≠ f (32 * a + 65) by omega), Bool.true_or]
  rw [e]
  rfl
def sCp (f : Int → Int) (a b : Int) : Int := if sLost f a b = true then -1 else zFp (sPg f) (f 0) (sLet f a b) + f (32 * a + 2 * b + 67) - 1
theorem cite_cases {f : Int → Int} {cap a b : Int} (hw : WF f cap) (a0 : 0 ≤ a) (a1 : a < 12) (b0 : 0 ≤ b) (b1 : b < f (32 * a + 65)) :
    (sLet f a b = -1 ∧ b2i (sLost f a b) = 1 ∧ sCp f a b = -1) ∨
    ((0 ≤ sLet f a b ∧ sLet f a b < f 1) ∧ b2i (sLost f a b) = 1 ∧ sCp f a b = -1 ∧ sPg f (sLet f a b) < f (32 * a + 2 * b + 67) ∧ f (2 * sLet f a b + 3) = f (32 * a + 2 * b + 66)) ∨
    ((0 ≤ sLet f a b ∧ sLet f a b < f 1) ∧ b2i (sLost f a b) = 0 ∧ (1 ≤ sCp f a b ∧ sCp f a b ≤ 3000) ∧ f (32 * a + 2 * b + 67) ≤ sPg f (sLet f a b) ∧ f (2 * sLet f a b + 3) = f (32 * a + 2 * b + 66) ∧ sLost f a b = false) := by
  have hn := hw.n
  have hci := hw.ci a b a0 a1 b0 b1
  have sp := zfind_spec (fun k => f (2 * k + 3)) (f (32 * a + 2 * b + 66)) (n := f 1) hn.1
  have er : zfind (fun k => f (2 * k + 3)) (f (32 * a + 2 * b + 66)) (f 1) = sLet f a b := rfl
  rw [er] at sp
  rcases sp with ⟨s1, -⟩ | ⟨s1, s2, s3, -⟩
  · left
    have e : sLost f a b = true := decide_eq_true (Or.inl s1)
    unfold sCp
    rw [if_pos e, e]
    exact ⟨s1, rfl, rfl⟩
  · right
    have r := lie_rng hw s1 s2
    have p : sPg f (sLet f a b) = f (2 * sLet f a b + 4) := rfl
    by_cases c : f (2 * sLet f a b + 4) < f (32 * a + 2 * b + 67)
    · left
      have e : sLost f a b = true := decide_eq_true (Or.inr c)
      unfold sCp
      rw [if_pos e, e]
      exact ⟨⟨s1, s2⟩, rfl, rfl, c, s3⟩
    · right
      have e : sLost f a b = false := decide_eq_false (fun z => by rcases z with z | z <;> omega)
      unfold sCp
      rw [if_neg (by rw [e]; decide), e]
      exact ⟨⟨s1, s2⟩, rfl, by omega, by omega, s3, rfl⟩
theorem sBds_end (f : Int → Int) : (f 1 = 0 → sBds f = 0) ∧ (f 1 ≠ 0 → sBds f = zBn (sPg f) (f 0) (f 1 - 1) + 1) := by
  unfold sBds zBnd
  exact ⟨fun h => if_pos h, fun h => if_neg h⟩
theorem zsum12 (h : Int → Int) : zsum h 12 = 0 + h 0 + h 1 + h 2 + h 3 + h 4 + h 5 + h 6 + h 7 + h 8 + h 9 + h 10 + h 11 := rfl
theorem zbit_0 : ∀ u v : Fin 64, ((iZ ((64 * u.val + v.val : Nat) : Int)) >>> ((iZ 0) &&& 31)) &&& (iZ 1) = iZ (((64 * u.val + v.val) / 1 % 2 : Nat) : Int) := by decide +kernel
theorem zbit_1 : ∀ u v : Fin 64, ((iZ ((64 * u.val + v.val : Nat) : Int)) >>> ((iZ 1) &&& 31)) &&& (iZ 1) = iZ (((64 * u.val + v.val) / 2 % 2 : Nat) : Int) := by decide +kernel
theorem zbit_2 : ∀ u v : Fin 64, ((iZ ((64 * u.val + v.val : Nat) : Int)) >>> ((iZ 2) &&& 31)) &&& (iZ 1) = iZ (((64 * u.val + v.val) / 4 % 2 : Nat) : Int) := by decide +kernel
theorem zbit_3 : ∀ u v : Fin 64, ((iZ ((64 * u.val + v.val : Nat) : Int)) >>> ((iZ 3) &&& 31)) &&& (iZ 1) = iZ (((64 * u.val + v.val) / 8 % 2 : Nat) : Int) := by decide +kernel
theorem zbit_4 : ∀ u v : Fin 64, ((iZ ((64 * u.val + v.val : Nat) : Int)) >>> ((iZ 4) &&& 31)) &&& (iZ 1) = iZ (((64 * u.val + v.val) / 16 % 2 : Nat) : Int) := by decide +kernel
theorem zbit_5 : ∀ u v : Fin 64, ((iZ ((64 * u.val + v.val : Nat) : Int)) >>> ((iZ 5) &&& 31)) &&& (iZ 1) = iZ (((64 * u.val + v.val) / 32 % 2 : Nat) : Int) := by decide +kernel
theorem zbit_6 : ∀ u v : Fin 64, ((iZ ((64 * u.val + v.val : Nat) : Int)) >>> ((iZ 6) &&& 31)) &&& (iZ 1) = iZ (((64 * u.val + v.val) / 64 % 2 : Nat) : Int) := by decide +kernel
theorem zbit_7 : ∀ u v : Fin 64, ((iZ ((64 * u.val + v.val : Nat) : Int)) >>> ((iZ 7) &&& 31)) &&& (iZ 1) = iZ (((64 * u.val + v.val) / 128 % 2 : Nat) : Int) := by decide +kernel
theorem zbit_8 : ∀ u v : Fin 64, ((iZ ((64 * u.val + v.val : Nat) : Int)) >>> ((iZ 8) &&& 31)) &&& (iZ 1) = iZ (((64 * u.val + v.val) / 256 % 2 : Nat) : Int) := by decide +kernel
theorem zbit_9 : ∀ u v : Fin 64, ((iZ ((64 * u.val + v.val : Nat) : Int)) >>> ((iZ 9) &&& 31)) &&& (iZ 1) = iZ (((64 * u.val + v.val) / 512 % 2 : Nat) : Int) := by decide +kernel
theorem zbit_10 : ∀ u v : Fin 64, ((iZ ((64 * u.val + v.val : Nat) : Int)) >>> ((iZ 10) &&& 31)) &&& (iZ 1) = iZ (((64 * u.val + v.val) / 1024 % 2 : Nat) : Int) := by decide +kernel
theorem zbit_11 : ∀ u v : Fin 64, ((iZ ((64 * u.val + v.val : Nat) : Int)) >>> ((iZ 11) &&& 31)) &&& (iZ 1) = iZ (((64 * u.val + v.val) / 2048 % 2 : Nat) : Int) := by decide +kernel
theorem zbit {a x : Int} (h0 : 0 ≤ a) (h1 : a < 12) (hx : 0 ≤ x ∧ x < 4096) : ∃ d : Int, ((iZ x) >>> ((iZ a) &&& 31)) &&& (iZ 1) = iZ (x / d % 2) ∧ d = zp2 a := by
  have e : x = ((64 * (x.toNat / 64) + x.toNat % 64 : Nat) : Int) := by omega
  rcases zp2_cases h0 h1 with rfl | rfl | rfl | rfl | rfl | rfl | rfl | rfl | rfl | rfl | rfl | rfl
  · refine ⟨1, ?_, by decide⟩
    have q := zbit_0 ⟨x.toNat / 64, by omega⟩ ⟨x.toNat % 64, by omega⟩
    have q2 : ((iZ ((64 * (x.toNat / 64) + x.toNat % 64 : Nat) : Int)) >>> ((iZ 0) &&& 31)) &&& (iZ 1) = iZ (((64 * (x.toNat / 64) + x.toNat % 64) / 1 % 2 : Nat) : Int) := q
    rw [← e] at q2
    rw [q2]
    congr 1
    omega
  · refine ⟨2, ?_, by decide⟩
    have q := zbit_1 ⟨x.toNat / 64, by omega⟩ ⟨x.toNat % 64, by omega⟩
    have q2 : ((iZ ((64 * (x.toNat / 64) + x.toNat % 64 : Nat) : Int)) >>> ((iZ 1) &&& 31)) &&& (iZ 1) = iZ (((64 * (x.toNat / 64) + x.toNat % 64) / 2 % 2 : Nat) : Int) := q
    rw [← e] at q2
    rw [q2]
    congr 1
    omega
  · refine ⟨4, ?_, by decide⟩
    have q := zbit_2 ⟨x.toNat / 64, by omega⟩ ⟨x.toNat % 64, by omega⟩
    have q2 : ((iZ ((64 * (x.toNat / 64) + x.toNat % 64 : Nat) : Int)) >>> ((iZ 2) &&& 31)) &&& (iZ 1) = iZ (((64 * (x.toNat / 64) + x.toNat % 64) / 4 % 2 : Nat) : Int) := q
    rw [← e] at q2
    rw [q2]
    congr 1
    omega
  · refine ⟨8, ?_, by decide⟩
    have q := zbit_3 ⟨x.toNat / 64, by omega⟩ ⟨x.toNat % 64, by omega⟩
    have q2 : ((iZ ((64 * (x.toNat / 64) + x.toNat % 64 : Nat) : Int)) >>> ((iZ 3) &&& 31)) &&& (iZ 1) = iZ (((64 * (x.toNat / 64) + x.toNat % 64) / 8 % 2 : Nat) : Int) := q
    rw [← e] at q2
    rw [q2]
    congr 1
    omega
  · refine ⟨16, ?_, by decide⟩
    have q := zbit_4 ⟨x.toNat / 64, by omega⟩ ⟨x.toNat % 64, by omega⟩
    have q2 : ((iZ ((64 * (x.toNat / 64) + x.toNat % 64 : Nat) : Int)) >>> ((iZ 4) &&& 31)) &&& (iZ 1) = iZ (((64 * (x.toNat / 64) + x.toNat % 64) / 16 % 2 : Nat) : Int) := q
    rw [← e] at q2
    rw [q2]
    congr 1
    omega
  · refine ⟨32, ?_, by decide⟩
    have q := zbit_5 ⟨x.toNat / 64, by omega⟩ ⟨x.toNat % 64, by omega⟩
    have q2 : ((iZ ((64 * (x.toNat / 64) + x.toNat % 64 : Nat) : Int)) >>> ((iZ 5) &&& 31)) &&& (iZ 1) = iZ (((64 * (x.toNat / 64) + x.toNat % 64) / 32 % 2 : Nat) : Int) := q
    rw [← e] at q2
    rw [q2]
    congr 1
    omega
  · refine ⟨64, ?_, by decide⟩
    have q := zbit_6 ⟨x.toNat / 64, by omega⟩ ⟨x.toNat % 64, by omega⟩
    have q2 : ((iZ ((64 * (x.toNat / 64) + x.toNat % 64 : Nat) : Int)) >>> ((iZ 6) &&& 31)) &&& (iZ 1) = iZ (((64 * (x.toNat / 64) + x.toNat % 64) / 64 % 2 : Nat) : Int) := q
    rw [← e] at q2
    rw [q2]
    congr 1
    omega
  · refine ⟨128, ?_, by decide⟩
    have q := zbit_7 ⟨x.toNat / 64, by omega⟩ ⟨x.toNat % 64, by omega⟩
    have q2 : ((iZ ((64 * (x.toNat / 64) + x.toNat % 64 : Nat) : Int)) >>> ((iZ 7) &&& 31)) &&& (iZ 1) = iZ (((64 * (x.toNat / 64) + x.toNat % 64) / 128 % 2 : Nat) : Int) := q
    rw [← e] at q2
    rw [q2]
    congr 1
    omega
  · refine ⟨256, ?_, by decide⟩
    have q := zbit_8 ⟨x.toNat / 64, by omega⟩ ⟨x.toNat % 64, by omega⟩
    have q2 : ((iZ ((64 * (x.toNat / 64) + x.toNat % 64 : Nat) : Int)) >>> ((iZ 8) &&& 31)) &&& (iZ 1) = iZ (((64 * (x.toNat / 64) + x.toNat % 64) / 256 % 2 : Nat) : Int) := q
    rw [← e] at q2
    rw [q2]
    congr 1
    omega
  · refine ⟨512, ?_, by decide⟩
    have q := zbit_9 ⟨x.toNat / 64, by omega⟩ ⟨x.toNat % 64, by omega⟩
    have q2 : ((iZ ((64 * (x.toNat / 64) + x.toNat % 64 : Nat) : Int)) >>> ((iZ 9) &&& 31)) &&& (iZ 1) = iZ (((64 * (x.toNat / 64) + x.toNat % 64) / 512 % 2 : Nat) : Int) := q
    rw [← e] at q2
    rw [q2]
    congr 1
    omega
  · refine ⟨1024, ?_, by decide⟩
    have q := zbit_10 ⟨x.toNat / 64, by omega⟩ ⟨x.toNat % 64, by omega⟩
    have q2 : ((iZ ((64 * (x.toNat / 64) + x.toNat % 64 : Nat) : Int)) >>> ((iZ 10) &&& 31)) &&& (iZ 1) = iZ (((64 * (x.toNat / 64) + x.toNat % 64) / 1024 % 2 : Nat) : Int) := q
    rw [← e] at q2
    rw [q2]
    congr 1
    omega
  · refine ⟨2048, ?_, by decide⟩
    have q := zbit_11 ⟨x.toNat / 64, by omega⟩ ⟨x.toNat % 64, by omega⟩
    have q2 : ((iZ ((64 * (x.toNat / 64) + x.toNat % 64 : Nat) : Int)) >>> ((iZ 11) &&& 31)) &&& (iZ 1) = iZ (((64 * (x.toNat / 64) + x.toNat % 64) / 2048 % 2 : Nat) : Int) := q
    rw [← e] at q2
    rw [q2]
    congr 1
    omega
theorem sRow_sum (f : Int → Int) (p : Int) : sRow f p = 1 * b2i (zany (fun b => sTb f p 0 b) (f (32 * 0 + 65))) + 2 * b2i (zany (fun b => sTb f p 1 b) (f (32 * 1 + 65))) + 4 * b2i (zany (fun b => sTb f p 2 b) (f (32 * 2 + 65))) + 8 * b2i (zany (fun b => sTb f p 3 b) (f (32 * 3 + 65))) + 16 * b2i (zany (fun b => sTb f p 4 b) (f (32 * 4 + 65))) + 32 * b2i (zany (fun b => sTb f p 5 b) (f (32 * 5 + 65))) + 64 * b2i (zany (fun b => sTb f p 6 b) (f (32 * 6 + 65))) + 128 * b2i (zany (fun b => sTb f p 7 b) (f (32 * 7 + 65))) + 256 * b2i (zany (fun b => sTb f p 8 b) (f (32 * 8 + 65))) + 512 * b2i (zany (fun b => sTb f p 9 b) (f (32 * 9 + 65))) + 1024 * b2i (zany (fun b => sTb f p 10 b) (f (32 * 10 + 65))) + 2048 * b2i (zany (fun b => sTb f p 11 b) (f (32 * 11 + 65))) := by
  have e : sRow f p = 0 + zp2 0 * b2i (zany (fun b => sTb f p 0 b) (f (32 * 0 + 65))) + zp2 1 * b2i (zany (fun b => sTb f p 1 b) (f (32 * 1 + 65))) + zp2 2 * b2i (zany (fun b => sTb f p 2 b) (f (32 * 2 + 65))) + zp2 3 * b2i (zany (fun b => sTb f p 3 b) (f (32 * 3 + 65))) + zp2 4 * b2i (zany (fun b => sTb f p 4 b) (f (32 * 4 + 65))) + zp2 5 * b2i (zany (fun b => sTb f p 5 b) (f (32 * 5 + 65))) + zp2 6 * b2i (zany (fun b => sTb f p 6 b) (f (32 * 6 + 65))) + zp2 7 * b2i (zany (fun b => sTb f p 7 b) (f (32 * 7 + 65))) + zp2 8 * b2i (zany (fun b => sTb f p 8 b) (f (32 * 8 + 65))) + zp2 9 * b2i (zany (fun b => sTb f p 9 b) (f (32 * 9 + 65))) + zp2 10 * b2i (zany (fun b => sTb f p 10 b) (f (32 * 10 + 65))) + zp2 11 * b2i (zany (fun b => sTb f p 11 b) (f (32 * 11 + 65))) := zsum12 _
  rw [e, show zp2 0 = 1 by decide, show zp2 1 = 2 by decide, show zp2 2 = 4 by decide, show zp2 3 = 8 by decide, show zp2 4 = 16 by decide, show zp2 5 = 32 by decide, show zp2 6 = 64 by decide, show zp2 7 = 128 by decide, show zp2 8 = 256 by decide, show zp2 9 = 512 by decide, show zp2 10 = 1024 by decide, show zp2 11 = 2048 by decide]
  omega
theorem sRow_bit {f : Int → Int} {cap a b p : Int} (hw : WF f cap) (a0 : 0 ≤ a) (a1 : a < 12) (b0 : 0 ≤ b) (b1 : b < f (32 * a + 65)) (hl : sLet f a b = p) (hs : sLost f a b = false) : ((iZ (sRow f p)) >>> ((iZ a) &&& 31)) &&& (iZ 1) = iZ 1 := by
  have hz : zany (fun b => sTb f p a b) (f (32 * a + 65)) = true := zany_iff.mpr ⟨b, b0, b1, decide_eq_true ⟨hl, hs⟩⟩
  have r := sMk_rng' f p (a := 12) (by omega)
  have e12 : zp2 12 = 4096 := by decide
  rw [e12] at r
  have r2 : 0 ≤ sRow f p ∧ sRow f p < 4096 := r
  obtain ⟨d, hd, ed⟩ := zbit a0 a1 r2
  rw [hd, ed]
  congr 1
  have s := sRow_sum f p
  have g0 : 0 ≤ b2i (zany (fun b => sTb f p 0 b) (f (32 * 0 + 65))) ∧ b2i (zany (fun b => sTb f p 0 b) (f (32 * 0 + 65))) ≤ 1 := by have q := b2i_rng (zany (fun b => sTb f p 0 b) (f (32 * 0 + 65))); omega
  have g1 : 0 ≤ b2i (zany (fun b => sTb f p 1 b) (f (32 * 1 + 65))) ∧ b2i (zany (fun b => sTb f p 1 b) (f (32 * 1 + 65))) ≤ 1 := by have q := b2i_rng (zany (fun b => sTb f p 1 b) (f (32 * 1 + 65))); omega
  have g2 : 0 ≤ b2i (zany (fun b => sTb f p 2 b) (f (32 * 2 + 65))) ∧ b2i (zany (fun b => sTb f p 2 b) (f (32 * 2 + 65))) ≤ 1 := by have q := b2i_rng (zany (fun b => sTb f p 2 b) (f (32 * 2 + 65))); omega
  have g3 : 0 ≤ b2i (zany (fun b => sTb f p 3 b) (f (32 * 3 + 65))) ∧ b2i (zany (fun b => sTb f p 3 b) (f (32 * 3 + 65))) ≤ 1 := by have q := b2i_rng (zany (fun b => sTb f p 3 b) (f (32 * 3 + 65))); omega
  have g4 : 0 ≤ b2i (zany (fun b => sTb f p 4 b) (f (32 * 4 + 65))) ∧ b2i (zany (fun b => sTb f p 4 b) (f (32 * 4 + 65))) ≤ 1 := by have q := b2i_rng (zany (fun b => sTb f p 4 b) (f (32 * 4 + 65))); omega
  have g5 : 0 ≤ b2i (zany (fun b => sTb f p 5 b) (f (32 * 5 + 65))) ∧ b2i (zany (fun b => sTb f p 5 b) (f (32 * 5 + 65))) ≤ 1 := by have q := b2i_rng (zany (fun b => sTb f p 5 b) (f (32 * 5 + 65))); omega
  have g6 : 0 ≤ b2i (zany (fun b => sTb f p 6 b) (f (32 * 6 + 65))) ∧ b2i (zany (fun b => sTb f p 6 b) (f (32 * 6 + 65))) ≤ 1 := by have q := b2i_rng (zany (fun b => sTb f p 6 b) (f (32 * 6 + 65))); omega
  have g7 : 0 ≤ b2i (zany (fun b => sTb f p 7 b) (f (32 * 7 + 65))) ∧ b2i (zany (fun b => sTb f p 7 b) (f (32 * 7 + 65))) ≤ 1 := by have q := b2i_rng (zany (fun b => sTb f p 7 b) (f (32 * 7 + 65))); omega
  have g8 : 0 ≤ b2i (zany (fun b => sTb f p 8 b) (f (32 * 8 + 65))) ∧ b2i (zany (fun b => sTb f p 8 b) (f (32 * 8 + 65))) ≤ 1 := by have q := b2i_rng (zany (fun b => sTb f p 8 b) (f (32 * 8 + 65))); omega
  have g9 : 0 ≤ b2i (zany (fun b => sTb f p 9 b) (f (32 * 9 + 65))) ∧ b2i (zany (fun b => sTb f p 9 b) (f (32 * 9 + 65))) ≤ 1 := by have q := b2i_rng (zany (fun b => sTb f p 9 b) (f (32 * 9 + 65))); omega
  have g10 : 0 ≤ b2i (zany (fun b => sTb f p 10 b) (f (32 * 10 + 65))) ∧ b2i (zany (fun b => sTb f p 10 b) (f (32 * 10 + 65))) ≤ 1 := by have q := b2i_rng (zany (fun b => sTb f p 10 b) (f (32 * 10 + 65))); omega
  have g11 : 0 ≤ b2i (zany (fun b => sTb f p 11 b) (f (32 * 11 + 65))) ∧ b2i (zany (fun b => sTb f p 11 b) (f (32 * 11 + 65))) ≤ 1 := by have q := b2i_rng (zany (fun b => sTb f p 11 b) (f (32 * 11 + 65))); omega
  have m0 : a = 0 → b2i (zany (fun b => sTb f p 0 b) (f (32 * 0 + 65))) = 1 := fun z => by rw [z] at hz; rw [hz]; rfl
  have m1 : a = 1 → b2i (zany (fun b => sTb f p 1 b) (f (32 * 1 + 65))) = 1 := fun z => by rw [z] at hz; rw [hz]; rfl
  have m2 : a = 2 → b2i (zany (fun b => sTb f p 2 b) (f (32 * 2 + 65))) = 1 := fun z => by rw [z] at hz; rw [hz]; rfl
  have m3 : a = 3 → b2i (zany (fun b => sTb f p 3 b) (f (32 * 3 + 65))) = 1 := fun z => by rw [z] at hz; rw [hz]; rfl
  have m4 : a = 4 → b2i (zany (fun b => sTb f p 4 b) (f (32 * 4 + 65))) = 1 := fun z => by rw [z] at hz; rw [hz]; rfl
  have m5 : a = 5 → b2i (zany (fun b => sTb f p 5 b) (f (32 * 5 + 65))) = 1 := fun z => by rw [z] at hz; rw [hz]; rfl
  have m6 : a = 6 → b2i (zany (fun b => sTb f p 6 b) (f (32 * 6 + 65))) = 1 := fun z => by rw [z] at hz; rw [hz]; rfl
  have m7 : a = 7 → b2i (zany (fun b => sTb f p 7 b) (f (32 * 7 + 65))) = 1 := fun z => by rw [z] at hz; rw [hz]; rfl
  have m8 : a = 8 → b2i (zany (fun b => sTb f p 8 b) (f (32 * 8 + 65))) = 1 := fun z => by rw [z] at hz; rw [hz]; rfl
  have m9 : a = 9 → b2i (zany (fun b => sTb f p 9 b) (f (32 * 9 + 65))) = 1 := fun z => by rw [z] at hz; rw [hz]; rfl
  have m10 : a = 10 → b2i (zany (fun b => sTb f p 10 b) (f (32 * 10 + 65))) = 1 := fun z => by rw [z] at hz; rw [hz]; rfl
  have m11 : a = 11 → b2i (zany (fun b => sTb f p 11 b) (f (32 * 11 + 65))) = 1 := fun z => by rw [z] at hz; rw [hz]; rfl
  generalize b2i (zany (fun b => sTb f p 0 b) (f (32 * 0 + 65))) = B0 at *
  generalize b2i (zany (fun b => sTb f p 1 b) (f (32 * 1 + 65))) = B1 at *
  generalize b2i (zany (fun b => sTb f p 2 b) (f (32 * 2 + 65))) = B2 at *
  generalize b2i (zany (fun b => sTb f p 3 b) (f (32 * 3 + 65))) = B3 at *
  generalize b2i (zany (fun b => sTb f p 4 b) (f (32 * 4 + 65))) = B4 at *
  generalize b2i (zany (fun b => sTb f p 5 b) (f (32 * 5 + 65))) = B5 at *
  generalize b2i (zany (fun b => sTb f p 6 b) (f (32 * 6 + 65))) = B6 at *
  generalize b2i (zany (fun b => sTb f p 7 b) (f (32 * 7 + 65))) = B7 at *
  generalize b2i (zany (fun b => sTb f p 8 b) (f (32 * 8 + 65))) = B8 at *
  generalize b2i (zany (fun b => sTb f p 9 b) (f (32 * 9 + 65))) = B9 at *
  generalize b2i (zany (fun b => sTb f p 10 b) (f (32 * 10 + 65))) = B10 at *
  generalize b2i (zany (fun b => sTb f p 11 b) (f (32 * 11 + 65))) = B11 at *
  generalize sRow f p = X at *
  rcases zp2_cases a0 a1 with h | h | h | h | h | h | h | h | h | h | h | h
  · have n := m0 h
    rw [h, show zp2 0 = 1 by decide]
    clear m0 m1 m2 m3 m4 m5 m6 m7 m8 m9 m10 m11 hz ed hd
    obtain ⟨lo, hlo⟩ : ∃ z, z = 0 := ⟨_, rfl⟩
    obtain ⟨hi, hhi⟩ : ∃ z, z = 1 * B1 + 2 * B2 + 4 * B3 + 8 * B4 + 16 * B5 + 32 * B6 + 64 * B7 + 128 * B8 + 256 * B9 + 512 * B10 + 1024 * B11 := ⟨_, rfl⟩
    have q1 : X = lo + 1 * 1 + 2 * hi := by omega
    have q2 : 0 ≤ lo ∧ lo < 1 := by omega
    clear s hlo hhi n g0 g1 g2 g3 g4 g5 g6 g7 g8 g9 g10 g11
    omega
  · have n := m1 h
    rw [h, show zp2 1 = 2 by decide]
    clear m0 m1 m2 m3 m4 m5 m6 m7 m8 m9 m10 m11 hz ed hd
    obtain ⟨lo, hlo⟩ : ∃ z, z = 1 * B0 := ⟨_, rfl⟩
    obtain ⟨hi, hhi⟩ : ∃ z, z = 1 * B2 + 2 * B3 + 4 * B4 + 8 * B5 + 16 * B6 + 32 * B7 + 64 * B8 + 128 * B9 + 256 * B10 + 512 * B11 := ⟨_, rfl⟩
    have q1 : X = lo + 2 * 1 + 4 * hi := by omega
    have q2 : 0 ≤ lo ∧ lo < 2 := by omega
    clear s hlo hhi n g0 g1 g2 g3 g4 g5 g6 g7 g8 g9 g10 g11
    omega
  · have n := m2 h
    rw [h, show zp2 2 = 4 by decide]
    clear m0 m1 m2 m3 m4 m5 m6 m7 m8 m9 m10 m11 hz ed hd
    obtain ⟨lo, hlo⟩ : ∃ z, z = 1 * B0 + 2 * B1 := ⟨_, rfl⟩
    obtain ⟨hi, hhi⟩ : ∃ z, z = 1 * B3 + 2 * B4 + 4 * B5 + 8 * B6 + 16 * B7 + 32 * B8 + 64 * B9 + 128 * B10 + 256 * B11 := ⟨_, rfl⟩
    have q1 : X = lo + 4 * 1 + 8 * hi := by omega
    have q2 : 0 ≤ lo ∧ lo < 4 := by omega
    clear s hlo hhi n g0 g1 g2 g3 g4 g5 g6 g7 g8 g9 g10 g11
    omega
  · have n := m3 h
    rw [h, show zp2 3 = 8 by decide]
    clear m0 m1 m2 m3 m4 m5 m6 m7 m8 m9 m10 m11 hz ed hd
    obtain ⟨lo, hlo⟩ : ∃ z, z = 1 * B0 + 2 * B1 + 4 * B2 := ⟨_, rfl⟩
    obtain ⟨hi, hhi⟩ : ∃ z, z = 1 * B4 + 2 * B5 + 4 * B6 + 8 * B7 + 16 * B8 + 32 * B9 + 64 * B10 + 128 * B11 := ⟨_, rfl⟩
    have q1 : X = lo + 8 * 1 + 16 * hi := by omega
    have q2 : 0 ≤ lo ∧ lo < 8 := by omega
    clear s hlo hhi n g0 g1 g2 g3 g4 g5 g6 g7 g8 g9 g10 g11
    omega
  · have n := m4 h
    rw [h, show zp2 4 = 16 by decide]
    clear m0 m1 m2 m3 m4 m5 m6 m7 m8 m9 m10 m11 hz ed hd
    obtain ⟨lo, hlo⟩ : ∃ z, z = 1 * B0 + 2 * B1 + 4 * B2 + 8 * B3 := ⟨_, rfl⟩
    obtain ⟨hi, hhi⟩ : ∃ z, z = 1 * B5 + 2 * B6 + 4 * B7 + 8 * B8 + 16 * B9 + 32 * B10 + 64 * B11 := ⟨_, rfl⟩
    have q1 : X = lo + 16 * 1 + 32 * hi := by omega
    have q2 : 0 ≤ lo ∧ lo < 16 := by omega
    clear s hlo hhi n g0 g1 g2 g3 g4 g5 g6 g7 g8 g9 g10 g11
    omega
  · have n := m5 h
    rw [h, show zp2 5 = 32 by decide]
    clear m0 m1 m2 m3 m4 m5 m6 m7 m8 m9 m10 m11 hz ed hd
    obtain ⟨lo, hlo⟩ : ∃ z, z = 1 * B0 + 2 * B1 + 4 * B2 + 8 * B3 + 16 * B4 := ⟨_, rfl⟩
    obtain ⟨hi, hhi⟩ : ∃ z, z = 1 * B6 + 2 * B7 + 4 * B8 + 8 * B9 + 16 * B10 + 32 * B11 := ⟨_, rfl⟩
    have q1 : X = lo + 32 * 1 + 64 * hi := by omega
    have q2 : 0 ≤ lo ∧ lo < 32 := by omega
    clear s hlo hhi n g0 g1 g2 g3 g4 g5 g6 g7 g8 g9 g10 g11
    omega
  · have n := m6 h
    rw [h, show zp2 6 = 64 by decide]
    clear m0 m1 m2 m3 m4 m5 m6 m7 m8 m9 m10 m11 hz ed hd
    obtain ⟨lo, hlo⟩ : ∃ z, z = 1 * B0 + 2 * B1 + 4 * B2 + 8 * B3 + 16 * B4 + 32 * B5 := ⟨_, rfl⟩
    obtain ⟨hi, hhi⟩ : ∃ z, z = 1 * B7 + 2 * B8 + 4 * B9 + 8 * B10 + 16 * B11 := ⟨_, rfl⟩
    have q1 : X = lo + 64 * 1 + 128 * hi := by omega
    have q2 : 0 ≤ lo ∧ lo < 64 := by omega
    clear s hlo hhi n g0 g1 g2 g3 g4 g5 g6 g7 g8 g9 g10 g11
    omega
  · have n := m7 h
    rw [h, show zp2 7 = 128 by decide]
    clear m0 m1 m2 m3 m4 m5 m6 m7 m8 m9 m10 m11 hz ed hd
    obtain ⟨lo, hlo⟩ : ∃ z, z = 1 * B0 + 2 * B1 + 4 * B2 + 8 * B3 + 16 * B4 + 32 * B5 + 64 * B6 := ⟨_, rfl⟩
    obtain ⟨hi, hhi⟩ : ∃ z, z = 1 * B8 + 2 * B9 + 4 * B10 + 8 * B11 := ⟨_, rfl⟩
    have q1 : X = lo + 128 * 1 + 256 * hi := by omega
    have q2 : 0 ≤ lo ∧ lo < 128 := by omega
    clear s hlo hhi n g0 g1 g2 g3 g4 g5 g6 g7 g8 g9 g10 g11
    omega
  · have n := m8 h
    rw [h, show zp2 8 = 256 by decide]
    clear m0 m1 m2 m3 m4 m5 m6 m7 m8 m9 m10 m11 hz ed hd
    obtain ⟨lo, hlo⟩ : ∃ z, z = 1 * B0 + 2 * B1 + 4 * B2 + 8 * B3 + 16 * B4 + 32 * B5 + 64 * B6 + 128 * B7 := ⟨_, rfl⟩
    obtain ⟨hi, hhi⟩ : ∃ z, z = 1 * B9 + 2 * B10 + 4 * B11 := ⟨_, rfl⟩
    have q1 : X = lo + 256 * 1 + 512 * hi := by omega
    have q2 : 0 ≤ lo ∧ lo < 256 := by omega
    clear s hlo hhi n g0 g1 g2 g3 g4 g5 g6 g7 g8 g9 g10 g11
    omega
  · have n := m9 h
    rw [h, show zp2 9 = 512 by decide]
    clear m0 m1 m2 m3 m4 m5 m6 m7 m8 m9 m10 m11 hz ed hd
    obtain ⟨lo, hlo⟩ : ∃ z, z = 1 * B0 + 2 * B1 + 4 * B2 + 8 * B3 + 16 * B4 + 32 * B5 + 64 * B6 + 128 * B7 + 256 * B8 := ⟨_, rfl⟩
    obtain ⟨hi, hhi⟩ : ∃ z, z = 1 * B10 + 2 * B11 := ⟨_, rfl⟩
    have q1 : X = lo + 512 * 1 + 1024 * hi := by omega
    have q2 : 0 ≤ lo ∧ lo < 512 := by omega
    clear s hlo hhi n g0 g1 g2 g3 g4 g5 g6 g7 g8 g9 g10 g11
    omega
  · have n := m10 h
    rw [h, show zp2 10 = 1024 by decide]
    clear m0 m1 m2 m3 m4 m5 m6 m7 m8 m9 m10 m11 hz ed hd
    obtain ⟨lo, hlo⟩ : ∃ z, z = 1 * B0 + 2 * B1 + 4 * B2 + 8 * B3 + 16 * B4 + 32 * B5 + 64 * B6 + 128 * B7 + 256 * B8 + 512 * B9 := ⟨_, rfl⟩
    obtain ⟨hi, hhi⟩ : ∃ z, z = 1 * B11 := ⟨_, rfl⟩
    have q1 : X = lo + 1024 * 1 + 2048 * hi := by omega
    have q2 : 0 ≤ lo ∧ lo < 1024 := by omega
    clear s hlo hhi n g0 g1 g2 g3 g4 g5 g6 g7 g8 g9 g10 g11
    omega
  · have n := m11 h
    rw [h, show zp2 11 = 2048 by decide]
    clear m0 m1 m2 m3 m4 m5 m6 m7 m8 m9 m10 m11 hz ed hd
    obtain ⟨lo, hlo⟩ : ∃ z, z = 1 * B0 + 2 * B1 + 4 * B2 + 8 * B3 + 16 * B4 + 32 * B5 + 64 * B6 + 128 * B7 + 256 * B8 + 512 * B9 + 1024 * B10 := ⟨_, rfl⟩
    obtain ⟨hi, hhi⟩ : ∃ z, z = 0 := ⟨_, rfl⟩
    have q1 : X = lo + 2048 * 1 + 4096 * hi := by omega
    have q2 : 0 ≤ lo ∧ lo < 2048 := by omega
    clear s hlo hhi n g0 g1 g2 g3 g4 g5 g6 g7 g8 g9 g10 g11
    omega
/-- shares -/
def sShare (f : Int → Int) : UInt64 := if f 1 = 0 then FP.dconst1 else FP.ddiv (FP.i2d (iZ (f 1 - sUnc f))) (FP.i2d (iZ (f 1)))
def shl0 (x : UInt64) : Int := (Op.cmpValue (FP.dcmp x FP.dconst0) .l).toInt
def shg1 (x : UInt64) : Int := (Op.cmpValue (FP.dcmp x FP.dconst1) .g).toInt
def shC (x : UInt64) : Bool := decide (x &&& 0x7fffffffffffffff ≤ 0x7ff0000000000000) && (decide (0 ≤ shl0 x) && decide (shg1 x ≤ 0))
theorem shC_all : ∀ a b : Fin 31, a.val ≤ b.val → b.val ≠ 0 → shC (FP.ddiv (FP.i2d (Int32.ofInt (a.val : Int))) (FP.i2d (Int32.ofInt (b.val : Int)))) = true := by decide +kernel
theorem shC_1 : shC FP.dconst1 = true := by decide +kernel
theorem shC_at {a b : Int} (h0 : 0 ≤ a) (h1 : a ≤ b) (h2 : 1 ≤ b) (h3 : b ≤ 30) : shC (FP.ddiv (FP.i2d (iZ a)) (FP.i2d (iZ b))) = true := by
  have r := shC_all ⟨a.toNat, by omega⟩ ⟨b.toNat, by omega⟩ (by show a.toNat ≤ b.toNat; omega) (by show b.toNat ≠ 0; omega)
  have e1 : ((a.toNat : Nat) : Int) = a := Int.toNat_of_nonneg h0
  have e2 : ((b.toNat : Nat) : Int) = b := Int.toNat_of_nonneg (by omega)
  have r2 : shC (FP.ddiv (FP.i2d (Int32.ofInt ((a.toNat : Nat) : Int))) (FP.i2d (Int32.ofInt ((b.toNat : Nat) : Int)))) = true := r
  rw [e1, e2] at r2
  exact r2
theorem shC_n {x : UInt64} (h : shC x = true) : vf_n64 x := by
  unfold shC at h
  simp only [Bool.and_eq_true, decide_eq_true_eq] at h
  exact h.1
theorem shC_lg {x : UInt64} (h : shC x = true) : 0 ≤ shl0 x ∧ shg1 x ≤ 0 := by
  unfold shC at h
  simp only [Bool.and_eq_true, decide_eq_true_eq] at h
  exact h.2
theorem share_shC {f : Int → Int} {cap : Int} (hw : WF f cap) : shC (sShare f) = true := by
  have hn := hw.n
  have r := sUnc_rng hw.wr
  unfold sShare
  by_cases c : f 1 = 0
  · rw [if_pos c]
    exact shC_1
  · rw [if_neg c]
    exact shC_at (by omega) (by omega) (by omega) hn.2
theorem sh_rng (x : UInt64) : (-2147483648 ≤ shl0 x ∧ shl0 x < 2147483648) ∧ (-2147483648 ≤ shg1 x ∧ shg1 x < 2147483648) := ⟨iZ_rng _, iZ_rng _⟩
end ZMB
