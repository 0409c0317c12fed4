/-! plain facts about integers: searches, sums, bits -/
section ZM
def b2i (b : Bool) : Int := if b = true then 1 else 0
theorem b2i_t : b2i true = 1 := rfl
theorem b2i_f : b2i false = 0 := rfl
theorem b2i_1 {P : Prop} [Decidable P] (h : P) : b2i (decide P) = 1 := by simp [b2i, h]
theorem b2i_0 {P : Prop} [Decidable P] (h : ¬ P) : b2i (decide P) = 0 := by simp [b2i, h]
theorem b2i_rng (b : Bool) : b2i b = 0 ∨ b2i b = 1 := by cases b <;> simp [b2i]
theorem b2i_eq0 {b : Bool} : b2i b = 0 ↔ b = false := by cases b <;> simp [b2i]
theorem b2i_ne0 {b : Bool} : b2i b ≠ 0 ↔ b = true := by cases b <;> simp [b2i]
theorem b2i_eq1 {b : Bool} : b2i b = 1 ↔ b = true := by cases b <;> simp [b2i]
theorem b2i_dec0 {P : Prop} [Decidable P] : b2i (decide P) = 0 ↔ ¬ P := by simp [b2i_eq0]
theorem b2i_decn {P : Prop} [Decidable P] : b2i (decide P) ≠ 0 ↔ P := by simp [b2i_ne0]
theorem lt_step {P : Int → Prop} {k : Int} (h : ∀ j, 0 ≤ j → j < k → P j) (hk : P k) : ∀ j, 0 ≤ j → j < k + 1 → P j := by
  intro j h0 h1
  by_cases hj : j = k
  · rw [hj]; exact hk
  · exact h j h0 (by omega)
/-- the first place below n at which h is x; -1 if there is none -/
def zfindF (h : Int → Int) (x : Int) : Nat → Int
  | 0 => -1
  | n + 1 => if zfindF h x n = -1 then (if h n = x then (n : Int) else -1) else zfindF h x n
def zfind (h : Int → Int) (x n : Int) : Int := zfindF h x n.toNat
theorem zfindF_spec (h : Int → Int) (x : Int) : ∀ n : Nat, (zfindF h x n = -1 ∧ ∀ j : Int, 0 ≤ j → j < n → h j ≠ x) ∨ (0 ≤ zfindF h x n ∧ zfindF h x n < n ∧ h (zfindF h x n) = x ∧ ∀ j : Int, 0 ≤ j → j < zfindF h x n → h j ≠ x)
  | 0 => Or.inl ⟨rfl, fun j h0 h1 => by omega⟩
  | n + 1 => by
    have ih := zfindF_spec h x n
    by_cases hc : zfindF h x n = -1
    · have e : zfindF h x (n + 1) = if h n = x then (n : Int) else -1 := by rw [zfindF, if_pos hc]
      have hno : ∀ j : Int, 0 ≤ j → j < n → h j ≠ x := by
        rcases ih with ih | ih
        · exact ih.2
        · omega
      by_cases hx : h n = x
      · rw [e, if_pos hx]
        exact Or.inr ⟨by omega, by omega, hx, hno⟩
      · rw [e, if_neg hx]
        refine Or.inl ⟨rfl, fun j h0 h1 => ?_⟩
        by_cases hj : j = n
        · rw [hj]; exact hx
        · exact hno j h0 (by omega)
    · have e : zfindF h x (n + 1) = zfindF h x n := by rw [zfindF, if_neg hc]
      rw [e]
      rcases ih with ih | ih
      · exact absurd ih.1 hc
      · exact Or.inr ⟨ih.1, by omega, ih.2.2.1, ih.2.2.2⟩
theorem zfind_spec (h : Int → Int) (x : Int) {n : Int} (hn : 0 ≤ n) : (zfind h x n = -1 ∧ ∀ j : Int, 0 ≤ j → j < n → h j ≠ x) ∨ (0 ≤ zfind h x n ∧ zfind h x n < n ∧ h (zfind h x n) = x ∧ ∀ j : Int, 0 ≤ j → j < zfind h x n → h j ≠ x) := by
  have s := zfindF_spec h x n.toNat
  have e : ((n.toNat : Nat) : Int) = n := Int.toNat_of_nonneg hn
  rw [e] at s
  exact s
theorem zfind_rng (h : Int → Int) (x : Int) {n : Int} (hn : 0 ≤ n) : -1 ≤ zfind h x n ∧ zfind h x n < n := by
  rcases zfind_spec h x hn with s | s <;> omega
theorem zfind_at {h : Int → Int} {x n k : Int} (h0 : 0 ≤ k) (h1 : k < n) (hno : ∀ j, 0 ≤ j → j < k → h j ≠ x) (hk : h k = x) : zfind h x n = k := by
  rcases zfind_spec h x (n := n) (by omega) with ⟨s1, s2⟩ | ⟨s1, s2, s3, s4⟩
  · exact absurd hk (s2 k h0 h1)
  · rcases Int.lt_trichotomy (zfind h x n) k with q | q | q
    · exact absurd s3 (hno _ s1 q)
    · exact q
    · exact absurd hk (s4 k h0 q)
theorem zfind_no {h : Int → Int} {x n : Int} (hno : ∀ j, 0 ≤ j → j < n → h j ≠ x) : zfind h x n = -1 := by
  by_cases hn : 0 ≤ n
  · rcases zfind_spec h x hn with s | ⟨s1, s2, s3, _⟩
    · exact s.1
    · exact absurd s3 (hno _ s1 s2)
  · have e : n.toNat = 0 := by omega
    unfold zfind
    rw [e]
    rfl
theorem zfind_cong {h h' : Int → Int} {x n : Int} (e : ∀ j, 0 ≤ j → j < n → h j = h' j) : zfind h x n = zfind h' x n := by
  by_cases hn : 0 ≤ n
  · rcases zfind_spec h' x hn with ⟨s1, s2⟩ | ⟨s1, s2, s3, s4⟩
    · rw [s1]
      exact zfind_no (fun j h0 h1 => by rw [e j h0 h1]; exact s2 j h0 h1)
    · exact zfind_at s1 s2 (fun j h0 h1 => by rw [e j h0 (by omega)]; exact s4 j h0 h1) (by rw [e _ s1 s2]; exact s3)
  · have e2 : n.toNat = 0 := by omega
    unfold zfind
    rw [e2]
    rfl
def zsumF (h : Int → Int) : Nat → Int
  | 0 => 0
  | n + 1 => zsumF h n + h n
def zsum (h : Int → Int) (n : Int) : Int := zsumF h n.toNat
theorem zsum_0 (h : Int → Int) : zsum h 0 = 0 := rfl
theorem zsum_1 (h : Int → Int) {n : Int} (hn : 0 ≤ n) : zsum h (n + 1) = zsum h n + h n := by
  have e : (n + 1).toNat = n.toNat + 1 := by omega
  unfold zsum
  rw [e, zsumF, Int.toNat_of_nonneg hn]
theorem zsum_1' (h : Int → Int) {n x : Int} (hn : 0 ≤ n) (hx : h n = x) : zsum h n + x = zsum h (n + 1) := by rw [zsum_1 h hn, hx]
theorem zsumF_cong {h h' : Int → Int} : ∀ n : Nat, (∀ j : Int, 0 ≤ j → j < n → h j = h' j) → zsumF h n = zsumF h' n
  | 0, _ => rfl
  | n + 1, e => by rw [zsumF, zsumF, zsumF_cong n (fun j h0 h1 => e j h0 (by omega)), e n (by omega) (by omega)]
theorem zsum_cong {h h' : Int → Int} {n : Int} (e : ∀ j, 0 ≤ j → j < n → h j = h' j) : zsum h n = zsum h' n :=
  zsumF_cong n.toNat (fun j h0 h1 => e j h0 (by omega))
theorem zsumF_rng {h : Int → Int} {c : Int} : ∀ n : Nat, (∀ j : Int, 0 ≤ j → j < n → 0 ≤ h j ∧ h j ≤ c) → 0 ≤ zsumF h n ∧ zsumF h n ≤ n * c
  | 0, _ => by simp [zsumF]
  | n + 1, e => by
    have ih := zsumF_rng n (fun j h0 h1 => e j h0 (by omega))
    have h2 := e n (by omega) (by omega)
    rw [zsumF]
    have h3 : ((n + 1 : Nat) : Int) * c = n * c + c := by rw [Int.natCast_add, Int.add_mul]; simp
    omega
theorem zsum_rng {h : Int → Int} {c n : Int} (hn : 0 ≤ n) (e : ∀ j, 0 ≤ j → j < n → 0 ≤ h j ∧ h j ≤ c) : 0 ≤ zsum h n ∧ zsum h n ≤ n * c := by
  have r := zsumF_rng (h := h) (c := c) n.toNat (fun j h0 h1 => e j h0 (by omega))
  rw [Int.toNat_of_nonneg hn] at r
  exact r
def zanyF (p : Int → Bool) : Nat → Bool
  | 0 => false
  | n + 1 => zanyF p n || p n
def zany (p : Int → Bool) (n : Int) : Bool := zanyF p n.toNat
theorem zanyF_iff {p : Int → Bool} : ∀ n : Nat, zanyF p n = true ↔ ∃ j : Int, 0 ≤ j ∧ j < n ∧ p j = true
  | 0 => by simp [zanyF]; omega
  | n + 1 => by
    rw [zanyF, Bool.or_eq_true, zanyF_iff n]
    constructor
    · rintro (⟨j, h0, h1, h2⟩ | h)
      · exact ⟨j, h0, by omega, h2⟩
      · exact ⟨n, by omega, by omega, h⟩
    · rintro ⟨j, h0, h1, h2⟩
      by_cases hj : j = n
      · right; rw [← hj]; exact h2
      · left; exact ⟨j, h0, by omega, h2⟩
theorem zany_iff {p : Int → Bool} {n : Int} : zany p n = true ↔ ∃ j : Int, 0 ≤ j ∧ j < n ∧ p j = true := by
  unfold zany
  rw [zanyF_iff]
  constructor
  · rintro ⟨j, h0, h1, h2⟩; exact ⟨j, h0, by omega, h2⟩
  · rintro ⟨j, h0, h1, h2⟩; exact ⟨j, h0, by omega, h2⟩
theorem zany_f {p : Int → Bool} {n : Int} : zany p n = false ↔ ∀ j : Int, 0 ≤ j → j < n → p j = false := by
  rw [← Bool.not_eq_true, zany_iff]
  constructor
  · intro h j h0 h1
    cases hp : p j with
    | false => rfl
    | true => exact absurd ⟨j, h0, h1, hp⟩ h
  · rintro h ⟨j, h0, h1, h2⟩
    rw [h j h0 h1] at h2
    cases h2
theorem zany_cong {p p' : Int → Bool} {n : Int} (e : ∀ j, 0 ≤ j → j < n → p j = p' j) : zany p n = zany p' n := by
  rw [Bool.eq_iff_iff, zany_iff, zany_iff]
  constructor
  · rintro ⟨j, h0, h1, h2⟩; exact ⟨j, h0, h1, by rw [← e j h0 h1]; exact h2⟩
  · rintro ⟨j, h0, h1, h2⟩; exact ⟨j, h0, h1, by rw [e j h0 h1]; exact h2⟩
theorem zany_0 (p : Int → Bool) : zany p 0 = false := rfl
theorem zany_1 (p : Int → Bool) {n : Int} (hn : 0 ≤ n) : zany p (n + 1) = (zany p n || p n) := by
  have e : (n + 1).toNat = n.toNat + 1 := by omega
  unfold zany
  rw [e, zanyF, Int.toNat_of_nonneg hn]
end ZM
