/-! p29: what each call does to the counts that the law asks for -/
section ZMA
def lowZ (v n : Int) : Int := v % 2147483648 % n
theorem lowZ_rng (v : Int) {n : Int} (h : 1 ≤ n) : 0 ≤ lowZ v n ∧ lowZ v n < n := ⟨Int.emod_nonneg _ (by omega), Int.emod_lt_of_pos _ (by omega)⟩
/-- a sum with one entry more -/
theorem zs_out {g h : Int → Int} {p : Int} (h0 : 0 ≤ p) : ∀ m : Nat, p ≤ (m : Int) → (∀ j : Int, 0 ≤ j → j < (m : Int) → g j = if p ≤ j then h (j + 1) else h j) → zsum g m + h p = zsum h ((m : Int) + 1)
  | 0, hp, _ => by
    have e : p = 0 := by omega
    subst e
    rw [show ((0 : Nat) : Int) = 0 by rfl, zsum_1 h (by omega), zsum_0, zsum_0]
  | m + 1, hp, e => by
    rw [show ((m + 1 : Nat) : Int) = (m : Int) + 1 by omega] at hp e ⊢
    by_cases c : p = (m : Int) + 1
    · subst c
      rw [zsum_1 h (n := (m : Int) + 1) (by omega)]
      have q : zsum g ((m : Int) + 1) = zsum h ((m : Int) + 1) := zsum_cong (fun j j0 j1 => by rw [e j j0 j1, if_neg (by omega)])
      rw [q]
    · have i := zs_out (g := g) (h := h) h0 m (by omega) (fun j j0 j1 => e j j0 (by omega))
      have q := e m (by omega) (by omega)
      rw [if_pos (by omega)] at q
      rw [zsum_1 g (n := (m : Int)) (by omega), zsum_1 h (n := (m : Int) + 1) (by omega), q]
      omega
theorem zs_out' {g h : Int → Int} {p n : Int} (h0 : 0 ≤ p) (hp : p ≤ n) (e : ∀ j : Int, 0 ≤ j → j < n → g j = if p ≤ j then h (j + 1) else h j) : zsum g n + h p = zsum h (n + 1) := by
  obtain ⟨m, rfl⟩ : ∃ m : Nat, n = (m : Int) := ⟨n.toNat, by omega⟩
  exact zs_out h0 m hp e
/-- sums that differ at one place -/
theorem zs_one {g h : Int → Int} {p : Int} (h0 : 0 ≤ p) : ∀ m : Nat, p < (m : Int) → (∀ j : Int, 0 ≤ j → j < (m : Int) → j ≠ p → g j = h j) → zsum g m - g p = zsum h m - h p
  | 0, hp, _ => by omega
  | m + 1, hp, e => by
    rw [show ((m + 1 : Nat) : Int) = (m : Int) + 1 by omega] at hp e ⊢
    rw [zsum_1 g (by omega), zsum_1 h (by omega)]
    by_cases c : p = (m : Int)
    · subst c
      have q : zsum g (m : Int) = zsum h (m : Int) := zsum_cong (fun j j0 j1 => e j j0 (by omega) (by omega))
      omega
    · have i := zs_one (g := g) (h := h) h0 m (by omega) (fun j j0 j1 j2 => e j j0 (by omega) j2)
      have q := e m (by omega) (by omega) (by omega)
      omega
theorem zs_one' {g h : Int → Int} {p n : Int} (h0 : 0 ≤ p) (hp : p < n) (e : ∀ j : Int, 0 ≤ j → j < n → j ≠ p → g j = h j) : zsum g n - g p = zsum h n - h p := by
  obtain ⟨m, rfl⟩ : ∃ m : Nat, n = (m : Int) := ⟨n.toNat, by omega⟩
  exact zs_one h0 m hp e
theorem sCts_cong {f h : Int → Int} (e : ∀ a, 0 ≤ a → a < 12 → h (32 * a + 65) = f (32 * a + 65)) : sCts h = sCts f := zsum_cong e
/-- pages in all: an exhibit out, in, with other pages -/
theorem sPgs_out {f : Int → Int} {p : Int} (hp : 0 ≤ p ∧ p < f 1) : sPgs (mOut f p) + f (2 * p + 4) = sPgs f := by
  unfold sPgs
  rw [mOut_1]
  have q := zs_out' (g := sPg (mOut f p)) (h := sPg f) (p := p) (n := f 1 - 1) hp.1 (by omega) (fun j j0 j1 => by
    show mOut f p (2 * j + 4) = if p ≤ j then f (2 * (j + 1) + 4) else f (2 * j + 4)
    exact (mOut_x f (p := p) j0 j1).2)
  rw [show f 1 - 1 + 1 = f 1 by omega] at q
  exact q
theorem sPgs_put {f : Int → Int} {p x y : Int} (hp : 0 ≤ p ∧ p ≤ f 1) : sPgs (mPut f p x y) = sPgs f + y := by
  have q (k : Int) (k0 : 0 ≤ k) (k1 : k ≤ f 1) := (mPut_x f (p := p) (x := x) (y := y) hp.1 k0 k1).2
  unfold sPgs
  rw [mPut_1]
  have z := zs_out' (g := sPg f) (h := sPg (mPut f p x y)) (p := p) (n := f 1) hp.1 hp.2 (fun j j0 j1 => by
    show f (2 * j + 4) = if p ≤ j then mPut f p x y (2 * (j + 1) + 4) else mPut f p x y (2 * j + 4)
    by_cases c : p ≤ j
    · rw [if_pos c, q (j + 1) (by omega) (by omega), if_neg (by omega), if_pos (by omega), show j + 1 - 1 = j by omega]
    · rw [if_neg c, q j j0 (by omega), if_neg (by omega), if_neg (by omega)])
  have e : sPg (mPut f p x y) p = y := by
    show mPut f p x y (2 * p + 4) = y
    rw [q p hp.1 hp.2, if_pos rfl]
  rw [e] at z
  exact z.symm
theorem sPgs_zu {f : Int → Int} {p v : Int} (hp : 0 ≤ p ∧ p < f 1) : sPgs (zu f (2 * p + 4) v) = sPgs f - f (2 * p + 4) + v := by
  have e1 : zu f (2 * p + 4) v 1 = f 1 := zu_ne _ _ (by omega)
  unfold sPgs
  rw [e1]
  have z := zs_one' (g := sPg (zu f (2 * p + 4) v)) (h := sPg f) (p := p) (n := f 1) hp.1 hp.2 (fun j j0 j1 j2 => by
    show zu f (2 * p + 4) v (2 * j + 4) = f (2 * j + 4)
    exact zu_ne _ _ (by omega))
  have e : sPg (zu f (2 * p + 4) v) p = v := zu_eq _ _ _
  have e2 : sPg f p = f (2 * p + 4) := rfl
  omega
theorem sPgs_cong {f h : Int → Int} (h1 : h 1 = f 1) (e : ∀ k, 0 ≤ k → k < f 1 → h (2 * k + 4) = f (2 * k + 4)) : sPgs h = sPgs f := by
  unfold sPgs
  rw [h1]
  exact zsum_cong e
theorem sPgs_join {f : Int → Int} {cap p : Int} (hw : WF f cap) (hp : 0 ≤ p ∧ p < f 1 - 1) : sPgs (mJoin f p) = sPgs f := by
  have hn := hw.n
  unfold mJoin
  generalize hF : mFol f (f (2 * p + 5)) (f (2 * p + 3)) 1 (f (2 * p + 4)) = F
  have l (j : Int) (hj : j < 66) : F j = f j := by rw [← hF]; exact mFol_lo hj
  have e1 := l 1 (by omega)
  rw [sPgs_zu (by rw [mOut_1, e1]; omega)]
  have q := sPgs_out (f := F) (p := p + 1) (by rw [e1]; omega)
  have c := sPgs_cong (f := f) (h := F) e1 (fun k k0 k1 => l _ (by omega))
  have x := (mOut_x F (p := p + 1) (k := p) hp.1 (by rw [e1]; omega)).2
  rw [if_neg (by omega), l _ (by omega)] at x
  rw [show 2 * (p + 1) + 4 = 2 * p + 6 by omega, l (2 * p + 6) (by omega)] at q
  omega
theorem sPgs_split {f : Int → Int} {cap p y : Int} (hw : WF f cap) (hp : 0 ≤ p ∧ p < f 1) : sPgs (mSplit f p y) = sPgs f := by
  have hn := hw.n
  unfold mSplit mCome
  generalize hF : mFol f (f (2 * p + 3)) (f 2) (y + 1) (-y) = F
  have l (j : Int) (hj : j < 66) : F j = f j := by rw [← hF]; exact mFol_lo hj
  have e1 := l 1 (by omega)
  have e2 : zu (mPut F (p + 1) (F 2) (f (2 * p + 4) - y)) 2 (F 2 + 1) 1 = f 1 + 1 := by rw [zu_ne _ _ (by omega), mPut_1, e1]
  rw [sPgs_zu (by rw [e2]; omega), sPgs_cong (f := mPut F (p + 1) (F 2) (f (2 * p + 4) - y)) (zu_ne _ _ (by omega)) (fun k k0 k1 => zu_ne _ _ (by omega)), sPgs_put (by rw [e1]; omega), sPgs_cong (f := f) (h := F) e1 (fun k k0 k1 => l _ (by omega)), zu_ne _ _ (by omega), (mPut_x F (p := p + 1) (k := p) (by omega) hp.1 (by rw [e1]; omega)).2, if_neg (by omega), if_neg (by omega), l _ (by omega)]
  omega
theorem sCts_join {f : Int → Int} {cap p : Int} (hw : WF f cap) : sCts (mJoin f p) = sCts f := by
  have hn := hw.n
  refine sCts_cong (fun a a0 a1 => ?_)
  unfold mJoin
  by_cases c : 32 * a + 65 = 2 * p + 4
  · omega
  · rw [zu_ne _ _ c, mOut_hi _ (by rw [mFol_lo (by omega)]; omega) (by omega), mFol_cnt]
theorem mSplit_hi {f : Int → Int} {cap p y j : Int} (hw : WF f cap) (hn9 : f 1 ≤ 29) (hp : 0 ≤ p ∧ p < f 1) (hj : 65 ≤ j) : mSplit f p y j = mFol f (f (2 * p + 3)) (f 2) (y + 1) (-y) j := by
  have e1 : mFol f (f (2 * p + 3)) (f 2) (y + 1) (-y) 1 = f 1 := mFol_lo (by omega)
  unfold mSplit mCome
  rw [zu_ne _ _ (by omega), zu_ne _ _ (by omega), mPut_hi _ (by rw [e1]; omega) (by rw [e1]; omega) hj]
theorem sCts_split {f : Int → Int} {cap p y : Int} (hw : WF f cap) (hn9 : f 1 ≤ 29) (hp : 0 ≤ p ∧ p < f 1) : sCts (mSplit f p y) = sCts f :=
  sCts_cong (fun a a0 a1 => by rw [mSplit_hi hw hn9 hp (by omega), mFol_cnt])
/-- a split loses none and finds none -/
theorem sLost_split {f : Int → Int} {cap p y a b : Int} (hw : WF f cap) (hn9 : f 1 ≤ 29) (hp : 0 ≤ p ∧ p < f 1) (hy : 1 ≤ y ∧ y < f (2 * p + 4)) (a0 : 0 ≤ a) (a1 : a < 12) (b0 : 0 ≤ b) (b1 : b < f (32 * a + 65)) : sLost (mSplit f p y) a b = sLost f a b := by
  have hn := hw.n
  have hnx := hw.nx
  have hpa := hw.pa a a0 a1
  have hci := hw.ci a b a0 a1 b0 b1
  have hpe := hw.ex p hp.1 hp.2
  have m := mFol_at (f := f) (x := f (2 * p + 3)) (x2 := f 2) (fr := y + 1) (mo := -y) ⟨a0, a1⟩ ⟨b0, b1⟩ (by omega)
  rw [← mSplit_hi hw hn9 hp (by omega), ← mSplit_hi hw hn9 hp (j := 32 * a + 2 * b + 67) (by omega)] at m
  have hS : ∀ z, sPl (mSplit f p y) z = sPl (mPut (mFol f (f (2 * p + 3)) (f 2) (y + 1) (-y)) (p + 1) (f 2) (f (2 * p + 4) - y)) z := by
    intro z
    unfold mSplit mCome
    rw [mFol_lo (j := 2) (by omega)]
    exact sPl_cong (by rw [zu_ne _ _ (by omega), zu_ne _ _ (by omega)]) (fun k k0 k1 => by rw [zu_ne _ _ (by omega), zu_ne _ _ (by omega)])
  have hP : ∀ k, 0 ≤ k → k ≤ f 1 → mSplit f p y (2 * k + 4) = if k = p then y else if k = p + 1 then f (2 * p + 4) - y else if p + 1 < k then f (2 * (k - 1) + 4) else f (2 * k + 4) := by
    intro k k0 k1
    unfold mSplit mCome
    by_cases c : k = p
    · rw [if_pos c, c, zu_eq]
    · rw [if_neg c, zu_ne _ _ (by omega), zu_ne _ _ (by omega), (mPut_x _ (p := p + 1) (k := k) (by omega) k0 (by rw [mFol_lo (by omega)]; exact k1)).2]
      split
      · rfl
      · split
        · exact mFol_lo (by omega)
        · exact mFol_lo (by omega)
  generalize hF : mFol f (f (2 * p + 3)) (f 2) (y + 1) (-y) = F at hS
  have l (j : Int) (hj : j < 66) : F j = f j := by rw [← hF]; exact mFol_lo hj
  have e1 := l 1 (by omega)
  have hSl : ∀ z, sPl F z = sPl f z := fun z => sPl_cong e1 (fun k k0 k1 => l _ (by omega))
  have hself : sPl f (f (2 * p + 3)) = p := zfind_at hp.1 hp.2 (fun j j0 j1 => by
    show f (2 * j + 3) ≠ f (2 * p + 3)
    exact hw.inj j p j0 j1 hp.2) rfl
  unfold sLost sLet
  by_cases c : mHitB f (f (2 * p + 3)) (y + 1) (-y) (32 * a + 2 * b + 66) = true
  · have c2 := of_decide_eq_true c
    rw [show 32 * a + 2 * b + 66 + 1 = 32 * a + 2 * b + 67 by omega] at c2
    rw [if_pos c, if_pos c] at m
    rw [m.1, m.2, hS, sPl_self (f := F) (p := p + 1) (by rw [e1]; omega) (fun k k0 k1 => by
      rw [e1] at k1
      rw [l _ (by omega)]
      have := hw.ex k k0 k1
      omega), hP (p + 1) (by omega) (by omega), if_neg (by omega), if_pos rfl, c2.1, hself]
    refine decide_eq_decide.mpr ?_
    omega
  · rw [if_neg c, if_neg c] at m
    rw [m.1, m.2, hS, sPl_put (f := F) (by rw [e1]; omega) (by rw [e1]; omega) (by omega), hSl]
    have r := sPl_rng hw.wr (f (32 * a + 2 * b + 66))
    have sp := zfind_spec (fun k => f (2 * k + 3)) (f (32 * a + 2 * b + 66)) (n := f 1) hn.1
    have er : zfind (fun k => f (2 * k + 3)) (f (32 * a + 2 * b + 66)) (f 1) = sPl f (f (32 * a + 2 * b + 66)) := rfl
    rw [er] at sp
    generalize sPl f (f (32 * a + 2 * b + 66)) = R at *
    by_cases d : R = -1
    · rw [if_pos d, d, decide_eq_true (Or.inl rfl), decide_eq_true (Or.inl rfl)]
    · rw [if_neg d]
      have d3 : f (2 * R + 3) = f (32 * a + 2 * b + 66) := by
        rcases sp with s | s
        · exact absurd s.1 d
        · exact s.2.2.1
      refine decide_eq_decide.mpr ?_
      by_cases g : R < p + 1
      · rw [if_pos g, hP R (by omega) (by omega)]
        by_cases u : R = p
        · rw [if_pos u]
          have v : ¬ (y + 1 ≤ f (32 * a + 2 * b + 67)) := fun w => c (decide_eq_true ⟨by rw [← d3, u], by rw [show 32 * a + 2 * b + 66 + 1 = 32 * a + 2 * b + 67 by omega]; omega, by rw [show 32 * a + 2 * b + 66 + 1 = 32 * a + 2 * b + 67 by omega]; omega⟩)
          rw [u]
          omega
        · rw [if_neg u, if_neg (by omega), if_neg (by omega)]
      · rw [if_neg g, hP (R + 1) (by omega) (by omega), if_neg (by omega), if_neg (by omega), if_pos (by omega), show R + 1 - 1 = R by omega]
        omega
theorem sAllLost_split {f : Int → Int} {cap p y : Int} (hw : WF f cap) (hn9 : f 1 ≤ 29) (hp : 0 ≤ p ∧ p < f 1) (hy : 1 ≤ y ∧ y < f (2 * p + 4)) : sAllLost (mSplit f p y) = sAllLost f := by
  refine zsum_cong (fun a a0 a1 => ?_)
  show zsum _ _ = zsum _ _
  rw [mSplit_hi hw hn9 hp (by omega), mFol_cnt]
  exact zsum_cong (fun b b0 b1 => by rw [sLost_split hw hn9 hp hy a0 a1 b0 b1])
/-- what a drop loses -/
theorem sAllLost_out {f : Int → Int} {cap p : Int} (hw : WF f cap) (hp : 0 ≤ p ∧ p < f 1) : sAllLost f + sCby f p 0 = sAllLost (mOut f p) := by
  have hn := hw.n
  unfold sAllLost sCby
  refine zsum_sub (by omega) (fun a a0 a1 => ?_)
  have q := hw.pa a a0 a1
  unfold sLostN
  rw [mOut_hi f (by omega) (by omega)]
  refine zsum_sub q.1 (fun b b0 b1 => ?_)
  unfold sCb
  rw [sLost_out hw hp a0 b0]
  cases hs : sLost f a b with
  | true =>
    rw [b2i_0 (fun z => by rcases z.2 with w | w <;> simp at w)]
    rfl
  | false =>
    by_cases c : sLet f a b = p
    · rw [b2i_1 ⟨c, Or.inr rfl⟩, decide_eq_true c]
      rfl
    · rw [b2i_0 (fun z => c z.1), decide_eq_false c]
      rfl
/-- cleaning -/
theorem left_lost (f : Int → Int) (a : Int) {c : Int} (hc : 0 ≤ c) : mLeft f a c + zsum (fun b => b2i (sLost f a b)) c = c := by
  have s := zsum_sub (h1 := fun b => b2i (!sLost f a b)) (h2 := fun b => b2i (sLost f a b)) (h3 := fun _ => 1) hc (fun j j0 j1 => by
    show b2i (!sLost f a j) + b2i (sLost f a j) = 1
    cases sLost f a j <;> rfl)
  rw [zsum_c 1 hc] at s
  unfold mLeft
  omega
theorem cl_good {f : Int → Int} {a : Int} : ∀ c : Nat, ∀ b, 0 ≤ b → b < mLeft f a c → ∃ b2 : Int, 0 ≤ b2 ∧ b2 < (c : Int) ∧ sLost f a b2 = false ∧ mCln f a c (32 * a + 2 * b + 66) = f (32 * a + 2 * b2 + 66) ∧ mCln f a c (32 * a + 2 * b + 67) = f (32 * a + 2 * b2 + 67)
  | 0, b, b0, b1 => absurd b1 (by
      have e : mLeft f a ((0 : Nat) : Int) = 0 := rfl
      omega)
  | c + 1, b, b0, b1 => by
    have hl := mLeft_rng f a (c := (c : Int)) (by omega)
    have em := mLeft_1 (f := f) (a := a) (c := (c : Int)) (by omega)
    have ek := mCln_1 (f := f) (a := a) (c := (c : Int)) (by omega)
    rw [show ((c + 1 : Nat) : Int) = (c : Int) + 1 by omega] at b1 ⊢
    cases hs : sLost f a c with
    | true =>
      rw [hs] at em ek
      rw [if_pos rfl] at ek
      have e0 : b2i (!true) = 0 := rfl
      rw [e0, Int.add_zero] at em
      rw [em] at b1
      obtain ⟨b2, c0, c1, c2⟩ := cl_good (f := f) (a := a) c b b0 b1
      rw [ek]
      exact ⟨b2, c0, by omega, c2⟩
    | false =>
      rw [hs] at em ek
      rw [if_neg (by decide)] at ek
      have e0 : b2i (!false) = 1 := rfl
      rw [e0] at em
      rw [em] at b1
      rw [ek]
      by_cases d : b = mLeft f a c
      · subst d
        rw [zu_ne _ _ (by omega), zu_eq, zu_eq]
        exact ⟨(c : Int), by omega, by omega, hs, rfl, rfl⟩
      · obtain ⟨b2, c0, c1, c2⟩ := cl_good (f := f) (a := a) c b b0 (by omega)
        rw [zu_ne _ _ (by omega), zu_ne _ _ (by omega), zu_ne _ _ (by omega), zu_ne _ _ (by omega)]
        exact ⟨b2, c0, by omega, c2⟩
theorem sCts_clean {f : Int → Int} {cap a : Int} (hw : WF f cap) (ha : 0 ≤ a ∧ a < 12) : sCts (mClean f a) = sCts f - (f (32 * a + 65) - mLeft f a (f (32 * a + 65))) := by
  obtain ⟨m1, m2, m3, m4⟩ := mClean_at hw ha
  have z := zs_one' (g := fun a => mClean f a (32 * a + 65)) (h := fun a => f (32 * a + 65)) (p := a) (n := 12) ha.1 ha.2
  have z2 := zs_one' (g := fun a2 => mClean f a (32 * a2 + 65)) (h := fun a2 => f (32 * a2 + 65)) (p := a) (n := 12) ha.1 ha.2 (fun j j0 j1 j2 => by
    show mClean f a (32 * j + 65) = f (32 * j + 65)
    rcases Int.lt_trichotomy j a with c | c | c
    · exact m1 _ (by omega)
    · exact absurd c j2
    · exact m3 _ (by omega))
  unfold sCts
  have z3 : zsum (fun a2 => mClean f a (32 * a2 + 65)) 12 - mClean f a (32 * a + 65) = zsum (fun a2 => f (32 * a2 + 65)) 12 - f (32 * a + 65) := z2
  rw [m2] at z3
  omega
theorem sAllLost_clean {f : Int → Int} {cap a : Int} (hw : WF f cap) (ha : 0 ≤ a ∧ a < 12) : sAllLost (mClean f a) = sAllLost f - (f (32 * a + 65) - mLeft f a (f (32 * a + 65))) := by
  have hn := hw.n
  have hpa := hw.pa a ha.1 ha.2
  obtain ⟨m1, m2, m3, m4⟩ := mClean_at hw ha
  have hS : ∀ z, sPl (mClean f a) z = sPl f z := fun z => sPl_cong (m1 1 (by omega)) (fun k k0 k1 => m1 _ (by omega))
  have z2 := zs_one' (g := fun a2 => sLostN (mClean f a) a2) (h := fun a2 => sLostN f a2) (p := a) (n := 12) ha.1 ha.2 (fun j j0 j1 j2 => by
    have e : ∀ d, 65 ≤ d → d < 97 → mClean f a (32 * j + d) = f (32 * j + d) := fun d d0 d1 => by
      rcases Int.lt_trichotomy j a with c | c | c
      · exact m1 _ (by omega)
      · exact absurd c j2
      · exact m3 _ (by omega)
    have q := hw.pa j j0 j1
    show zsum _ _ = zsum _ _
    rw [e 65 (by omega) (by omega)]
    refine zsum_cong (fun b b0 b1 => ?_)
    have c1 : mClean f a (32 * j + 2 * b + 66) = f (32 * j + 2 * b + 66) := by
      rw [show 32 * j + 2 * b + 66 = 32 * j + (2 * b + 66) by omega]
      exact e _ (by omega) (by omega)
    have c2 : mClean f a (32 * j + 2 * b + 67) = f (32 * j + 2 * b + 67) := by
      rw [show 32 * j + 2 * b + 67 = 32 * j + (2 * b + 67) by omega]
      exact e _ (by omega) (by omega)
    show b2i (sLost (mClean f a) j b) = b2i (sLost f j b)
    rw [sLost_cong hn.1 (m1 1 (by omega)) (fun k k0 k1 => m1 _ (by omega)) (fun k k0 k1 => m1 _ (by omega)) c1 c2])
  have z3 : zsum (fun a2 => sLostN (mClean f a) a2) 12 - sLostN (mClean f a) a = zsum (fun a2 => sLostN f a2) 12 - sLostN f a := z2
  have e0 : sLostN (mClean f a) a = 0 := by
    have q : zsum (fun b => b2i (sLost (mClean f a) a b)) (mClean f a (32 * a + 65)) = zsum (fun _ => 0) (mClean f a (32 * a + 65)) := by
      rw [m2]
      refine zsum_cong (fun b b0 b1 => ?_)
      have cg := cl_good (f := f) (a := a) (f (32 * a + 65)).toNat b b0 (by rw [Int.toNat_of_nonneg hpa.1]; exact b1)
      rw [Int.toNat_of_nonneg hpa.1] at cg
      obtain ⟨b2, c0, c1, c2, c3, c4⟩ := cg
      have e : sLost (mClean f a) a b = sLost f a b2 := by
        unfold sLost sLet
        rw [(m4 b b0).1, (m4 b b0).2, c3, c4, hS]
        by_cases d : sPl f (f (32 * a + 2 * b2 + 66)) = -1
        · rw [d, decide_eq_true (Or.inl rfl), decide_eq_true (Or.inl rfl)]
        · have r := sPl_rng hw.wr (f (32 * a + 2 * b2 + 66))
          rw [m1 _ (by omega)]
      show b2i (sLost (mClean f a) a b) = 0
      rw [e, c2]
      rfl
    unfold sLostN
    rw [q, zsum_c 0 (by rw [m2]; exact (mLeft_rng f a hpa.1).1)]
    omega
  have e1 := left_lost f a hpa.1
  have e2 : sLostN f a = zsum (fun b => b2i (sLost f a b)) (f (32 * a + 65)) := rfl
  unfold sAllLost
  omega
/-- printing makes fresh -/
theorem sStaleN_print {f : Int → Int} {cap a : Int} (hw : WF f cap) (ha : 0 ≤ a ∧ a < 12) : sStaleN (mPrint f a) = sStaleN f - b2i (sStale f a) := by
  have hn := hw.n
  have hpa := hw.pa a ha.1 ha.2
  have o (j : Int) (h : j < 32 * a + 78 ∨ 32 * a + 97 ≤ j) : mPrint f a j = f j := mPrt_out (by omega)
  have e78 : mPrint f a (32 * a + 78) = f (32 * a + 65) := mPrt_78 f a _
  have eL : ∀ a2 b, 0 ≤ a2 → a2 < 12 → 0 ≤ b → b < 6 → sLet (mPrint f a) a2 b = sLet f a2 b ∧ sLost (mPrint f a) a2 b = sLost f a2 b := fun a2 b a0 a1 b0 b1 => by
    have c1 : mPrint f a (32 * a2 + 2 * b + 66) = f (32 * a2 + 2 * b + 66) := o _ (by omega)
    have c2 : mPrint f a (32 * a2 + 2 * b + 67) = f (32 * a2 + 2 * b + 67) := o _ (by omega)
    exact ⟨sLet_cong (o 1 (by omega)) (fun k k0 k1 => o _ (by omega)) c1, sLost_cong hn.1 (o 1 (by omega)) (fun k k0 k1 => o _ (by omega)) (fun k k0 k1 => o _ (by omega)) c1 c2⟩
  have z2 := zs_one' (g := fun a2 => b2i (sStale (mPrint f a) a2)) (h := fun a2 => b2i (sStale f a2)) (p := a) (n := 12) ha.1 ha.2 (fun j j0 j1 j2 => by
    have q := hw.pa j j0 j1
    show b2i (sStale (mPrint f a) j) = b2i (sStale f j)
    unfold sStale
    rw [o (32 * j + 78) (by omega), o (32 * j + 65) (by omega)]
    congr 2
    refine zany_cong (fun b b0 b1 => ?_)
    unfold sMis
    rw [o (32 * j + 3 * b + 79) (by omega), o (32 * j + 3 * b + 80) (by omega), o (32 * j + 3 * b + 81) (by omega), o (32 * j + 2 * b + 67) (by omega), (eL j b j0 j1 b0 (by omega)).1, (eL j b j0 j1 b0 (by omega)).2])
  have e0 : sStale (mPrint f a) a = false := by
    unfold sStale
    rw [e78, o (32 * a + 65) (by omega), decide_eq_false (fun z => z rfl), Bool.false_or, zany_f]
    intro b b0 b1
    have p := mPrt_at (f := f) (a := a) (c := f (32 * a + 65)) ⟨b0, b1⟩
    have l := eL a b ha.1 ha.2 b0 (by omega)
    unfold sMis
    rw [l.1, l.2, o (32 * a + 2 * b + 67) (by omega)]
    unfold mPrint
    rw [p.1, p.2.1, p.2.2]
    refine decide_eq_false (fun z => ?_)
    rcases z with z | z | z <;> exact z rfl
  have z3 : zsum (fun a2 => b2i (sStale (mPrint f a) a2)) 12 - b2i (sStale (mPrint f a) a) = zsum (fun a2 => b2i (sStale f a2)) 12 - b2i (sStale f a) := z2
  rw [e0, b2i_f] at z3
  unfold sStaleN
  omega
/-- what the law asks of a turn: of the state before and behind, its sort, its place, what is told -/
def ACT (f : Int → Int) (k so a : Int) (f2 : Int → Int) (k2 z : Int) : Prop :=
  (-2147483648 ≤ z ∧ z < 2147483648) ∧ (z < 0 → f2 = f ∧ k2 = k) ∧ (8 ≤ so → so ≤ 10 → sPgs f2 = sPgs f ∧ sCts f2 = sCts f) ∧ (so = 9 ∨ so = 10 → sAllLost f2 = sAllLost f) ∧
  (so = 6 → 0 ≤ z → f 1 ≠ 0 ∧ z = sDrp f (lowZ a (f 1)) 0 ∧ sAllLost f2 = sAllLost f + z ∧ sStaleN f2 = sDrp f (lowZ a (f 1)) 1) ∧
  (so = 15 → sCts f2 = sCts f - z ∧ sAllLost f2 = sAllLost f - z) ∧ (so = 16 ∨ so = 17 → sStaleN f2 = sStaleN f - z)
theorem act_no {f : Int → Int} {k so a z : Int} (h : so ≠ 15 ∧ so ≠ 16 ∧ so ≠ 17) (hz : -10 ≤ z ∧ z < 0) : ACT f k so a f k z :=
  ⟨by omega, fun _ => ⟨rfl, rfl⟩, fun _ _ => ⟨rfl, rfl⟩, fun _ => rfl, fun _ h0 => by omega, fun h0 => by omega, fun h0 => by omega⟩
theorem act_pl {f f2 : Int → Int} {k k2 so a z : Int} (h : so ≠ 6 ∧ so ≠ 8 ∧ so ≠ 9 ∧ so ≠ 10 ∧ so ≠ 15 ∧ so ≠ 16 ∧ so ≠ 17) (hz : 0 ≤ z ∧ z < 2147483648) : ACT f k so a f2 k2 z :=
  ⟨by omega, fun h0 => by omega, fun h0 h1 => by omega, fun h0 => by omega, fun h0 => by omega, fun h0 => by omega, fun h0 => by omega⟩
theorem act_drop {f : Int → Int} {k k2 so a cap : Int} (h : so = 6) (hw : WF f cap) (h1 : f 1 ≠ 0) : ACT f k so a (mOut f (lowZ a (f 1))) k2 (sAllLost (mOut f (lowZ a (f 1))) - sAllLost f) := by
  have hn := hw.n
  have r := lowZ_rng a (n := f 1) (by omega)
  have s := sAllLost_out hw r
  have t := sCby_rng hw.wr (lowZ a (f 1)) 0
  refine ⟨by omega, fun h0 => by omega, fun h0 h1 => by omega, fun h0 => by omega, fun _ _ => ⟨h1, ?_, by omega, ?_⟩, fun h0 => by omega, fun h0 => by omega⟩
  · unfold sDrp
    rw [if_pos rfl]
  · unfold sDrp
    rw [if_neg (by omega)]
theorem act_join {f : Int → Int} {k k2 so a p cap : Int} (h : so = 8) (hw : WF f cap) (hp : 0 ≤ p ∧ p < f 1 - 1) : ACT f k so a (mJoin f p) k2 (f (2 * p + 4) + f (2 * p + 6)) := by
  have q0 := hw.ex p hp.1 (by omega)
  have q1 := hw.ex (p + 1) (by omega) (by omega)
  rw [show 2 * (p + 1) + 4 = 2 * p + 6 by omega] at q1
  exact ⟨by omega, fun h0 => by omega, fun _ _ => ⟨sPgs_join hw hp, sCts_join hw⟩, fun h0 => by omega, fun h0 => by omega, fun h0 => by omega, fun h0 => by omega⟩
theorem act_split {f : Int → Int} {k k2 so a p y cap : Int} (h : so = 9 ∨ so = 10) (hw : WF f cap) (hc : cap ≤ 100000) (hn9 : f 1 ≤ 29) (hp : 0 ≤ p ∧ p < f 1) (hy : 1 ≤ y ∧ y < f (2 * p + 4)) : ACT f k so a (mSplit f p y) k2 (f 2) := by
  have hnx := hw.nx
  exact ⟨by omega, fun h0 => by omega, fun _ _ => ⟨sPgs_split hw hp, sCts_split hw hn9 hp⟩, fun _ => sAllLost_split hw hn9 hp hy, fun h0 => by omega, fun h0 => by omega, fun h0 => by omega⟩
theorem act_clean {f : Int → Int} {k k2 so a p cap : Int} (h : so = 15) (hw : WF f cap) (hp : 0 ≤ p ∧ p < 12) : ACT f k so a (mClean f p) k2 (f (32 * p + 65) - mLeft f p (f (32 * p + 65))) := by
  have hpa := hw.pa p hp.1 hp.2
  have hl := mLeft_rng f p hpa.1
  exact ⟨by omega, fun h0 => by omega, fun h0 h1 => by omega, fun h0 => by omega, fun h0 => by omega, fun _ => ⟨sCts_clean hw hp, sAllLost_clean hw hp⟩, fun h0 => by omega⟩
theorem act_print {f : Int → Int} {k k2 so a p cap : Int} (h : so = 16 ∨ so = 17) (hw : WF f cap) (hp : 0 ≤ p ∧ p < 12) : ACT f k so a (mPrint f p) k2 (b2i (sStale f p)) := by
  have r := b2i_rng (sStale f p)
  exact ⟨by omega, fun h0 => by omega, fun h0 h1 => by omega, fun h0 => by omega, fun h0 => by omega, fun h0 => by omega, fun _ => sStaleN_print hw hp⟩
end ZMA
