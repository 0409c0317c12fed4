/-! what the changing calls keep of the reference's row -/
section ZWF1
theorem WF.mono {f : Int → Int} {c c' : Int} (h : WF f c) (hc : c ≤ c') : WF f c' := ⟨h.1, h.2.1, h.2.2.1, ⟨h.nx.1, by have := h.nx; omega⟩, h.ex, h.inj, h.pa, h.ci, h.pr⟩
theorem WF_cong {f h : Int → Int} {cap : Int} (hw : WF f cap) (hr : Rg h) (e : ∀ j, 0 ≤ j → j < 449 → h j = f j) : WF h cap := by
  have e0 := e 0 (by omega) (by omega)
  have e1 := e 1 (by omega) (by omega)
  have e2 := e 2 (by omega) (by omega)
  have hn := hw.n
  refine ⟨hr, by rw [e0]; exact hw.bp, by rw [e1]; exact hn, by rw [e2]; exact hw.nx, fun k k0 k1 => ?_, fun j k j0 j1 k1 => ?_, fun a a0 a1 => ?_, fun a b a0 a1 b0 b1 => ?_, fun a b a0 a1 b0 b1 => ?_⟩
  · rw [e1] at k1
    rw [e _ (by omega) (by omega), e (2 * k + 4) (by omega) (by omega), e2]
    exact hw.ex k k0 k1
  · rw [e1] at k1
    rw [e _ (by omega) (by omega), e (2 * k + 3) (by omega) (by omega)]
    exact hw.inj j k j0 j1 k1
  · rw [e _ (by omega) (by omega), e (32 * a + 78) (by omega) (by omega)]
    exact hw.pa a a0 a1
  · rw [e (32 * a + 65) (by omega) (by omega)] at b1
    have q := hw.pa a a0 a1
    rw [e _ (by omega) (by omega), e (32 * a + 2 * b + 67) (by omega) (by omega), e2]
    exact hw.ci a b a0 a1 b0 b1
  · rw [e (32 * a + 78) (by omega) (by omega)] at b1
    have q := hw.pa a a0 a1
    rw [e _ (by omega) (by omega), e (32 * a + 3 * b + 80) (by omega) (by omega), e (32 * a + 3 * b + 81) (by omega) (by omega)]
    exact hw.pr a b a0 a1 b0 b1
theorem Rg_zu {f : Int → Int} (h : Rg f) {i v : Int} (hv : -2147483648 ≤ v ∧ v < 2147483648) : Rg (zu f i v) := by
  intro j
  simp only [zu]
  split
  · exact hv
  · exact h j
/-- only the exhibits, and what is told of them, change -/
theorem WF_ex {f h : Int → Int} {cap c2 : Int} (hw : WF f cap) (hr : Rg h) (h0 : 10 ≤ h 0 ∧ h 0 ≤ 200) (h1 : 0 ≤ h 1 ∧ h 1 ≤ 30) (h2 : f 2 ≤ h 2 ∧ h 2 ≤ c2)
    (hx : ∀ k, 0 ≤ k → k < h 1 → 0 ≤ h (2 * k + 3) ∧ h (2 * k + 3) < h 2 ∧ 1 ≤ h (2 * k + 4) ∧ h (2 * k + 4) ≤ 60) (hi : ∀ j k, 0 ≤ j → j < k → k < h 1 → h (2 * j + 3) ≠ h (2 * k + 3)) (hh : ∀ j, 65 ≤ j → h j = f j) : WF h c2 := by
  have hn := hw.nx
  refine ⟨hr, h0, h1, by omega, hx, hi, fun a a0 a1 => ?_, fun a b a0 a1 b0 b1 => ?_, fun a b a0 a1 b0 b1 => ?_⟩
  · rw [hh _ (by omega), hh (32 * a + 78) (by omega)]
    exact hw.pa a a0 a1
  · rw [hh (32 * a + 65) (by omega)] at b1
    have q := hw.ci a b a0 a1 b0 b1
    rw [hh _ (by omega), hh (32 * a + 2 * b + 67) (by omega)]
    omega
  · rw [hh (32 * a + 78) (by omega)] at b1
    rw [hh _ (by omega), hh (32 * a + 3 * b + 80) (by omega), hh (32 * a + 3 * b + 81) (by omega)]
    exact hw.pr a b a0 a1 b0 b1
theorem mOut_1 (f : Int → Int) (p : Int) : mOut f p 1 = f 1 - 1 := by simp [mOut]
theorem mOut_lo (f : Int → Int) {p j : Int} (hp : 0 ≤ p) (hj : j < 3) (h1 : j ≠ 1) : mOut f p j = f j := by
  simp only [mOut]
  rw [if_neg h1, if_neg (by omega)]
theorem mOut_hi (f : Int → Int) {p j : Int} (hn : f 1 ≤ 31) (hj : 65 ≤ j) : mOut f p j = f j := by
  simp only [mOut]
  rw [if_neg (by omega), if_neg (by omega)]
theorem mOut_x (f : Int → Int) {p k : Int} (hk : 0 ≤ k) (h1 : k < f 1 - 1) : mOut f p (2 * k + 3) = (if p ≤ k then f (2 * (k + 1) + 3) else f (2 * k + 3)) ∧ mOut f p (2 * k + 4) = (if p ≤ k then f (2 * (k + 1) + 4) else f (2 * k + 4)) := by
  refine ⟨?_, ?_⟩
  · simp only [mOut]
    rw [if_neg (by omega)]
    by_cases c : p ≤ k
    · rw [if_pos (by omega), if_pos c]
      congr 1
      omega
    · rw [if_neg (by omega), if_neg c]
  · simp only [mOut]
    rw [if_neg (by omega)]
    by_cases c : p ≤ k
    · rw [if_pos (by omega), if_pos c]
      congr 1
      omega
    · rw [if_neg (by omega), if_neg c]
theorem Rg_out {f : Int → Int} (h : Rg f) (hn : 0 ≤ f 1 ∧ f 1 ≤ 31) (p : Int) : Rg (mOut f p) := by
  intro j
  have a := h j
  have b := h (j + 2)
  simp only [mOut]
  split
  · omega
  · split
    · exact b
    · exact a
theorem WF_out {f : Int → Int} {cap p : Int} (hw : WF f cap) (hp : 0 ≤ p ∧ p < f 1) : WF (mOut f p) cap := by
  have hn := hw.n
  have e1 := mOut_1 f p
  have e0 := mOut_lo f (j := 0) hp.1 (by omega) (by omega)
  have e2 := mOut_lo f (j := 2) hp.1 (by omega) (by omega)
  refine WF_ex hw (Rg_out hw.rg (by omega) p) (by rw [e0]; exact hw.bp) (by rw [e1]; omega) (by rw [e2]; have := hw.nx; omega) (fun k k0 k1 => ?_) (fun j k j0 j1 k1 => ?_) (fun j hj => mOut_hi f (by omega) hj)
  · rw [e1] at k1
    have q := mOut_x f (p := p) k0 k1
    rw [q.1, q.2, e2]
    by_cases c : p ≤ k
    · rw [if_pos c, if_pos c]
      exact hw.ex (k + 1) (by omega) (by omega)
    · rw [if_neg c, if_neg c]
      exact hw.ex k k0 (by omega)
  · rw [e1] at k1
    rw [(mOut_x f (p := p) j0 (by omega)).1, (mOut_x f (p := p) (k := k) (by omega) k1).1]
    by_cases c : p ≤ j
    · rw [if_pos c, if_pos (by omega)]
      exact hw.inj _ _ (by omega) (by omega) (by omega)
    · rw [if_neg c]
      by_cases d : p ≤ k
      · rw [if_pos d]
        exact hw.inj _ _ j0 (by omega) (by omega)
      · rw [if_neg d]
        exact hw.inj _ _ j0 j1 (by omega)
theorem mPut_1 (f : Int → Int) (p x y : Int) : mPut f p x y 1 = f 1 + 1 := by simp [mPut]
theorem mPut_lo (f : Int → Int) {p x y j : Int} (hp : 0 ≤ p) (hj : j < 3) (h1 : j ≠ 1) : mPut f p x y j = f j := by
  simp only [mPut]
  rw [if_neg h1, if_neg (by omega), if_neg (by omega), if_neg (by omega)]
theorem mPut_hi (f : Int → Int) {p x y j : Int} (hn : f 1 ≤ 30) (hp : p ≤ f 1) (hj : 65 ≤ j) : mPut f p x y j = f j := by
  simp only [mPut]
  rw [if_neg (by omega), if_neg (by omega), if_neg (by omega), if_neg (by omega)]
theorem mPut_x (f : Int → Int) {p x y k : Int} (hp : 0 ≤ p) (hk : 0 ≤ k) (h1 : k ≤ f 1) : mPut f p x y (2 * k + 3) = (if k = p then x else if p < k then f (2 * (k - 1) + 3) else f (2 * k + 3)) ∧ mPut f p x y (2 * k + 4) = (if k = p then y else if p < k then f (2 * (k - 1) + 4) else f (2 * k + 4)) := by
  refine ⟨?_, ?_⟩
  · simp only [mPut]
    rw [if_neg (by omega)]
    by_cases c : k = p
    · rw [if_pos (by omega), if_pos c]
    · rw [if_neg (by omega), if_neg (by omega), if_neg c]
      by_cases d : p < k
      · rw [if_pos (by omega), if_pos d]
        congr 1
        omega
      · rw [if_neg (by omega), if_neg d]
  · simp only [mPut]
    rw [if_neg (by omega)]
    by_cases c : k = p
    · rw [if_neg (by omega), if_pos (by omega), if_pos c]
    · rw [if_neg (by omega), if_neg (by omega), if_neg c]
      by_cases d : p < k
      · rw [if_pos (by omega), if_pos d]
        congr 1
        omega
      · rw [if_neg (by omega), if_neg d]
theorem Rg_put {f : Int → Int} (h : Rg f) (hn : 0 ≤ f 1 ∧ f 1 ≤ 31) {p x y : Int} (hx : -2147483648 ≤ x ∧ x < 2147483648) (hy : -2147483648 ≤ y ∧ y < 2147483648) : Rg (mPut f p x y) := by
  intro j
  have a := h j
  have b := h (j - 2)
  simp only [mPut]
  (repeat' split) <;> omega
theorem WF_put {f : Int → Int} {cap p x y : Int} (hw : WF f cap) (hc : cap ≤ 1000000) (hn : f 1 ≤ 29) (hp : 0 ≤ p ∧ p ≤ f 1) (hx : 0 ≤ x ∧ x < f 2) (hxi : ∀ k, 0 ≤ k → k < f 1 → f (2 * k + 3) ≠ x) (hy : 1 ≤ y ∧ y ≤ 60) : WF (mPut f p x y) cap := by
  have hn0 := hw.n
  have hx2 := hw.nx
  have e1 := mPut_1 f p x y
  have e0 := mPut_lo f (x := x) (y := y) (j := 0) hp.1 (by omega) (by omega)
  have e2 := mPut_lo f (x := x) (y := y) (j := 2) hp.1 (by omega) (by omega)
  refine WF_ex hw (Rg_put hw.rg (by omega) (by omega) (by omega)) (by rw [e0]; exact hw.bp) (by rw [e1]; omega) (by rw [e2]; omega) (fun k k0 k1 => ?_) (fun j k j0 j1 k1 => ?_) (fun j hj => mPut_hi f (by omega) hp.2 hj)
  · rw [e1] at k1
    have q := mPut_x f (p := p) (x := x) (y := y) hp.1 k0 (by omega)
    rw [q.1, q.2, e2]
    by_cases c : k = p
    · rw [if_pos c, if_pos c]
      omega
    · rw [if_neg c, if_neg c]
      by_cases d : p < k
      · rw [if_pos d, if_pos d]
        exact hw.ex (k - 1) (by omega) (by omega)
      · rw [if_neg d, if_neg d]
        exact hw.ex k k0 (by omega)
  · rw [e1] at k1
    rw [(mPut_x f (p := p) (x := x) (y := y) hp.1 j0 (by omega)).1, (mPut_x f (p := p) (x := x) (y := y) (k := k) hp.1 (by omega) (by omega)).1]
    by_cases c : j = p
    · rw [if_pos c, if_neg (by omega), if_pos (by omega)]
      exact fun z => hxi _ (by omega) (by omega) z.symm
    · rw [if_neg c]
      by_cases d : p < j
      · rw [if_pos d, if_neg (by omega), if_pos (by omega)]
        exact hw.inj _ _ (by omega) (by omega) (by omega)
      · rw [if_neg d]
        by_cases c2 : k = p
        · rw [if_pos c2]
          exact hxi _ (by omega) (by omega)
        · rw [if_neg c2]
          by_cases d2 : p < k
          · rw [if_pos d2]
            exact hw.inj _ _ (by omega) (by omega) (by omega)
          · rw [if_neg d2]
            exact hw.inj _ _ (by omega) (by omega) (by omega)
theorem WF_bump {f : Int → Int} {cap : Int} (hw : WF f cap) (hc : cap ≤ 1000000) : WF (zu f 2 (f 2 + 1)) (cap + 1) := by
  have hx := hw.nx
  have e (j : Int) (hj : j ≠ 2) : zu f 2 (f 2 + 1) j = f j := zu_ne _ _ hj
  have e2 : zu f 2 (f 2 + 1) 2 = f 2 + 1 := zu_eq _ _ _
  refine WF_ex hw (Rg_zu hw.rg (by omega)) (by rw [e 0 (by omega)]; exact hw.bp) (by rw [e 1 (by omega)]; exact hw.n) (by rw [e2]; omega) (fun k k0 k1 => ?_) (fun j k j0 j1 k1 => ?_) (fun j hj => e j (by omega))
  · rw [e 1 (by omega)] at k1
    rw [e _ (by omega), e (2 * k + 4) (by omega), e2]
    have q := hw.ex k k0 k1
    omega
  · rw [e 1 (by omega)] at k1
    rw [e _ (by omega), e (2 * k + 3) (by omega)]
    exact hw.inj j k j0 j1 k1
theorem mCome_put (f : Int → Int) {p y : Int} (hp : 0 ≤ p) : mCome f p y = mPut (zu f 2 (f 2 + 1)) p (f 2) y := by
  funext j
  simp only [mCome]
  by_cases c : j = 2
  · subst c
    rw [zu_eq, mPut_lo _ hp (by omega) (by omega), zu_eq]
  · rw [zu_ne _ _ c]
    simp only [mPut]
    rw [zu_ne f (f 2 + 1) (show (1 : Int) ≠ 2 by omega), zu_ne f (f 2 + 1) c]
    by_cases d : 2 * p + 4 < j ∧ j ≤ 2 * f 1 + 4
    · rw [zu_ne f (f 2 + 1) (show j - 2 ≠ 2 by omega)]
    · rw [if_neg d, if_neg d]
theorem WF_come {f : Int → Int} {cap p y : Int} (hw : WF f cap) (hc : cap ≤ 999999) (hn : f 1 ≤ 29) (hp : 0 ≤ p ∧ p ≤ f 1) (hy : 1 ≤ y ∧ y ≤ 60) : WF (mCome f p y) (cap + 1) := by
  have hx := hw.nx
  have e1 : zu f 2 (f 2 + 1) 1 = f 1 := zu_ne _ _ (by omega)
  have e2 : zu f 2 (f 2 + 1) 2 = f 2 + 1 := zu_eq _ _ _
  rw [mCome_put f hp.1]
  refine WF_put (WF_bump hw (by omega)) (by omega) (by rw [e1]; exact hn) (by rw [e1]; exact hp) (by rw [e2]; omega) (fun k k0 k1 => ?_) hy
  rw [e1] at k1
  rw [zu_ne _ _ (by omega)]
  have q := hw.ex k k0 k1
  omega
theorem WF_move {f : Int → Int} {cap p t : Int} (hw : WF f cap) (hc : cap ≤ 1000000) (hp : 0 ≤ p ∧ p < f 1) (ht : 0 ≤ t ∧ t < f 1) : WF (mMove f p t) cap := by
  have hn := hw.n
  have e1 := mOut_1 f p
  have e2 := mOut_lo f (j := 2) hp.1 (by omega) (by omega)
  have q := hw.ex p hp.1 hp.2
  refine WF_put (WF_out hw hp) hc (by rw [e1]; omega) (by rw [e1]; omega) (by rw [e2]; omega) (fun k k0 k1 => ?_) (by omega)
  rw [e1] at k1
  rw [(mOut_x f (p := p) k0 k1).1]
  by_cases c : p ≤ k
  · rw [if_pos c]
    exact fun z => hw.inj p (k + 1) hp.1 (by omega) (by omega) z.symm
  · rw [if_neg c]
    exact hw.inj k p k0 (by omega) hp.2
theorem WF_pages {f : Int → Int} {cap p y : Int} (hw : WF f cap) (hp : 0 ≤ p ∧ p < f 1) (hy : 1 ≤ y ∧ y ≤ 60) : WF (zu f (2 * p + 4) y) cap := by
  have hn := hw.n
  have e (j : Int) (hj : j ≠ 2 * p + 4) : zu f (2 * p + 4) y j = f j := zu_ne _ _ hj
  refine WF_ex hw (Rg_zu hw.rg (by omega)) (by rw [e 0 (by omega)]; exact hw.bp) (by rw [e 1 (by omega)]; exact hn) (by rw [e 2 (by omega)]; have := hw.nx; omega) (fun k k0 k1 => ?_) (fun j k j0 j1 k1 => ?_) (fun j hj => e j (by omega))
  · rw [e 1 (by omega)] at k1
    rw [e (2 * k + 3) (by omega), e 2 (by omega)]
    have q := hw.ex k k0 k1
    by_cases c : k = p
    · subst c
      rw [zu_eq]
      omega
    · rw [e _ (by omega)]
      exact q
  · rw [e 1 (by omega)] at k1
    rw [e _ (by omega), e (2 * k + 3) (by omega)]
    exact hw.inj j k j0 j1 k1
theorem WF_set {f : Int → Int} {cap y : Int} (hw : WF f cap) (hy : 10 ≤ y ∧ y ≤ 200) : WF (zu f 0 y) cap := by
  have e (j : Int) (hj : j ≠ 0) : zu f 0 y j = f j := zu_ne _ _ hj
  refine WF_ex hw (Rg_zu hw.rg (by omega)) (by rw [zu_eq]; exact hy) (by rw [e 1 (by omega)]; exact hw.n) (by rw [e 2 (by omega)]; have := hw.nx; omega) (fun k k0 k1 => ?_) (fun j k j0 j1 k1 => ?_) (fun j hj => e j (by omega))
  · rw [e 1 (by omega)] at k1
    rw [e (2 * k + 3) (by omega), e 2 (by omega), e (2 * k + 4) (by omega)]
    exact hw.ex k k0 k1
  · rw [e 1 (by omega)] at k1
    rw [e _ (by omega), e (2 * k + 3) (by omega)]
    exact hw.inj j k j0 j1 k1
/-- only citations, and how they were printed, change -/
theorem WF_ci {f h : Int → Int} {cap c2 : Int} (hw : WF f cap) (hr : Rg h) (hl : ∀ j, 0 ≤ j → j < 65 → j ≠ 2 → h j = f j) (h2 : f 2 ≤ h 2 ∧ h 2 ≤ c2)
    (hp : ∀ a, 0 ≤ a → a < 12 → 0 ≤ h (32 * a + 65) ∧ h (32 * a + 65) ≤ 6 ∧ -1 ≤ h (32 * a + 78) ∧ h (32 * a + 78) ≤ 6)
    (hc : ∀ a b, 0 ≤ a → a < 12 → 0 ≤ b → b < h (32 * a + 65) → 0 ≤ h (32 * a + 2 * b + 66) ∧ h (32 * a + 2 * b + 66) < h 2 ∧ 1 ≤ h (32 * a + 2 * b + 67) ∧ h (32 * a + 2 * b + 67) ≤ 60)
    (hq : ∀ a b, 0 ≤ a → a < 12 → 0 ≤ b → b < h (32 * a + 78) → -1 ≤ h (32 * a + 3 * b + 79) ∧ h (32 * a + 3 * b + 79) ≤ 29 ∧ 1 ≤ h (32 * a + 3 * b + 80) ∧ h (32 * a + 3 * b + 80) ≤ 60 ∧ 0 ≤ h (32 * a + 3 * b + 81) ∧ h (32 * a + 3 * b + 81) ≤ 1) : WF h c2 := by
  have hn := hw.n
  have e1 := hl 1 (by omega) (by omega) (by omega)
  refine ⟨hr, by rw [hl 0 (by omega) (by omega) (by omega)]; exact hw.bp, by rw [e1]; exact hn, by have := hw.nx; omega, fun k k0 k1 => ?_, fun j k j0 j1 k1 => ?_, hp, hc, hq⟩
  · rw [e1] at k1
    have q := hw.ex k k0 k1
    rw [hl (2 * k + 3) (by omega) (by omega) (by omega), hl (2 * k + 4) (by omega) (by omega) (by omega)]
    omega
  · rw [e1] at k1
    rw [hl _ (by omega) (by omega) (by omega), hl (2 * k + 3) (by omega) (by omega) (by omega)]
    exact hw.inj j k j0 j1 k1
theorem WF_name {f : Int → Int} {cap a p y : Int} (hw : WF f cap) (hc : cap ≤ 1000000) (ha : 0 ≤ a ∧ a < 12) (hp : 0 ≤ p ∧ p < f 1) (hy : 1 ≤ y ∧ y ≤ 60) (h6 : f (32 * a + 65) ≤ 5) : WF (mName f a p y) cap := by
  have hn := hw.n
  have hx := hw.nx
  have hpa := hw.pa a ha.1 ha.2
  have hex := hw.ex p hp.1 hp.2
  generalize hN : f (32 * a + 65) = N at *
  have e (j : Int) (h1 : j ≠ 32 * a + 2 * N + 66) (h2 : j ≠ 32 * a + 2 * N + 67) (h3 : j ≠ 32 * a + 65) : mName f a p y j = f j := by
    simp only [mName, hN]
    rw [zu_ne _ _ h3, zu_ne _ _ h2, zu_ne _ _ h1]
  have e3 : mName f a p y (32 * a + 65) = N + 1 := by simp only [mName, hN]; rw [zu_eq]
  have e4 : mName f a p y (32 * a + 2 * N + 66) = f (2 * p + 3) := by
    simp only [mName, hN]
    rw [zu_ne _ _ (by omega), zu_ne _ _ (by omega), zu_eq]
  have e5 : mName f a p y (32 * a + 2 * N + 67) = y := by
    simp only [mName, hN]
    rw [zu_ne _ _ (by omega), zu_eq]
  have e2 := e 2 (by omega) (by omega) (by omega)
  refine WF_ci hw (by simp only [mName, hN]; exact Rg_zu (Rg_zu (Rg_zu hw.rg (by omega)) (by omega)) (by omega)) (fun j j0 j1 _ => e j (by omega) (by omega) (by omega)) (by rw [e2]; omega) (fun a2 a0 a1 => ?_) (fun a2 b a0 a1 b0 b1 => ?_) (fun a2 b a0 a1 b0 b1 => ?_)
  · rw [e (32 * a2 + 78) (by omega) (by omega) (by omega)]
    have q := hw.pa a2 a0 a1
    by_cases c : a2 = a
    · subst c
      rw [e3]
      omega
    · rw [e (32 * a2 + 65) (by omega) (by omega) (by omega)]
      exact q
  · rw [e2]
    by_cases c : a2 = a
    · subst c
      rw [e3] at b1
      by_cases d : b = N
      · subst d
        rw [e4, e5]
        omega
      · rw [e _ (by omega) (by omega) (by omega), e (32 * a2 + 2 * b + 67) (by omega) (by omega) (by omega)]
        exact hw.ci a2 b a0 a1 b0 (by omega)
    · have q := hw.pa a2 a0 a1
      rw [e (32 * a2 + 65) (by omega) (by omega) (by omega)] at b1
      rw [e _ (by omega) (by omega) (by omega), e (32 * a2 + 2 * b + 67) (by omega) (by omega) (by omega)]
      exact hw.ci a2 b a0 a1 b0 b1
  · have q := hw.pa a2 a0 a1
    have e9 : ∀ d, 78 ≤ d → d < 97 → mName f a p y (32 * a2 + d) = f (32 * a2 + d) := fun d d0 d1 => by
      rcases Int.lt_trichotomy a2 a with h | h | h <;> exact e _ (by omega) (by omega) (by omega)
    rw [e9 78 (by omega) (by omega)] at b1
    have g1 := e9 (3 * b + 79) (by omega) (by omega)
    have g2 := e9 (3 * b + 80) (by omega) (by omega)
    have g3 := e9 (3 * b + 81) (by omega) (by omega)
    rw [show 32 * a2 + (3 * b + 79) = 32 * a2 + 3 * b + 79 by omega] at g1
    rw [show 32 * a2 + (3 * b + 80) = 32 * a2 + 3 * b + 80 by omega] at g2
    rw [show 32 * a2 + (3 * b + 81) = 32 * a2 + 3 * b + 81 by omega] at g3
    rw [g1, g2, g3]
    exact hw.pr a2 b a0 a1 b0 b1
theorem mFol_lo {f : Int → Int} {x x2 fr mo j : Int} (h : j < 66) : mFol f x x2 fr mo j = f j := mFol_out (by omega)
theorem mFol_cnt {f : Int → Int} {x x2 fr mo a : Int} : mFol f x x2 fr mo (32 * a + 65) = f (32 * a + 65) := mFol_out (by omega)
theorem mFol_pr {f : Int → Int} {x x2 fr mo a d : Int} (hw : f (32 * a + 65) ≤ 6) (hd : 78 ≤ d ∧ d < 97) : mFol f x x2 fr mo (32 * a + d) = f (32 * a + d) := by
  refine mFol_out (fun h => ?_)
  have e1 : (32 * a + d - 65) % 32 = d - 65 := by omega
  rw [e1, show 32 * a + d - (d - 65) = 32 * a + 65 by omega] at h
  omega
theorem Rg_fol {f : Int → Int} (h : Rg f) {x x2 fr mo : Int} (hx : -2147483648 ≤ x2 ∧ x2 < 2147483648) (hm : -1000 ≤ mo) (hf : -1000 ≤ fr) : Rg (mFol f x x2 fr mo) := by
  intro j
  have a := h j
  simp only [mFol]
  split
  · split
    · split
      · exact hx
      · exact a
    · split
      · rename_i _ _ c
        unfold mHitB at c
        have d := of_decide_eq_true c
        rw [show j - 1 + 1 = j by omega] at d
        omega
      · exact a
  · exact a
theorem WF_fol {f : Int → Int} {cap c2 cap2 x x2 fr mo : Int} (hw : WF f cap) (hc : cap2 ≤ 1000000) (h2 : f 2 ≤ c2 ∧ c2 ≤ cap2) (hx : 0 ≤ x2 ∧ x2 < c2) (hfm : 1 ≤ fr + mo) (hm : -1000 ≤ mo ∧ -1000 ≤ fr) : WF (zu (mFol f x x2 fr mo) 2 c2) cap2 := by
  have hn := hw.n
  have hnx := hw.nx
  have e (j : Int) (hj : j ≠ 2) : zu (mFol f x x2 fr mo) 2 c2 j = mFol f x x2 fr mo j := zu_ne _ _ hj
  have e2 : zu (mFol f x x2 fr mo) 2 c2 2 = c2 := zu_eq _ _ _
  refine WF_ci hw (Rg_zu (Rg_fol hw.rg (by omega) hm.1 hm.2) (by omega)) (fun j j0 j1 j2 => by rw [e j j2, mFol_lo (by omega)]) (by rw [e2]; exact h2) (fun a a0 a1 => ?_) (fun a b a0 a1 b0 b1 => ?_) (fun a b a0 a1 b0 b1 => ?_)
  · have q := hw.pa a a0 a1
    rw [e _ (by omega), e (32 * a + 78) (by omega), mFol_cnt, mFol_pr (by omega) (by omega)]
    exact q
  · have q := hw.pa a a0 a1
    rw [e _ (by omega), mFol_cnt] at b1
    have r := hw.ci a b a0 a1 b0 b1
    rw [e _ (by omega), e (32 * a + 2 * b + 67) (by omega), e2]
    have m := mFol_at (f := f) (x := x) (x2 := x2) (fr := fr) (mo := mo) ⟨a0, a1⟩ ⟨b0, b1⟩ (by omega)
    rw [m.1, m.2]
    by_cases d : mHitB f x fr mo (32 * a + 2 * b + 66) = true
    · rw [if_pos d, if_pos d]
      have d2 := of_decide_eq_true d
      rw [show 32 * a + 2 * b + 66 + 1 = 32 * a + 2 * b + 67 by omega] at d2
      omega
    · rw [if_neg d, if_neg d]
      omega
  · have q := hw.pa a a0 a1
    rw [e _ (by omega), mFol_pr (by omega) (by omega)] at b1
    rw [e _ (by omega), e (32 * a + 3 * b + 80) (by omega), e (32 * a + 3 * b + 81) (by omega), show 32 * a + 3 * b + 79 = 32 * a + (3 * b + 79) by omega, show 32 * a + 3 * b + 80 = 32 * a + (3 * b + 80) by omega, show 32 * a + 3 * b + 81 = 32 * a + (3 * b + 81) by omega, mFol_pr (by omega) (by omega), mFol_pr (by omega) (by omega), mFol_pr (by omega) (by omega), show 32 * a + (3 * b + 79) = 32 * a + 3 * b + 79 by omega, show 32 * a + (3 * b + 80) = 32 * a + 3 * b + 80 by omega, show 32 * a + (3 * b + 81) = 32 * a + 3 * b + 81 by omega]
    exact hw.pr a b a0 a1 b0 b1
theorem zu_same {f : Int → Int} {i v : Int} (h : f i = v) : zu f i v = f := by
  funext j
  simp only [zu]
  split
  · rename_i c
    rw [c, h]
  · rfl
theorem WF_join {f : Int → Int} {cap p : Int} (hw : WF f cap) (hc : cap ≤ 1000000) (hp : 0 ≤ p ∧ p < f 1 - 1) (hs : f (2 * p + 4) + f (2 * p + 6) ≤ 60) : WF (mJoin f p) cap := by
  have hn := hw.n
  have q0 := hw.ex p hp.1 (by omega)
  have q1 := hw.ex (p + 1) (by omega) (by omega)
  rw [show 2 * (p + 1) + 3 = 2 * p + 5 by omega, show 2 * (p + 1) + 4 = 2 * p + 6 by omega] at q1
  have h1 : WF (mFol f (f (2 * p + 5)) (f (2 * p + 3)) 1 (f (2 * p + 4))) cap := by
    have r := WF_fol (c2 := f 2) (x := f (2 * p + 5)) (x2 := f (2 * p + 3)) (fr := 1) (mo := f (2 * p + 4)) hw hc (by have := hw.nx; omega) (by omega) (by omega) (by omega)
    rw [zu_same (mFol_lo (by omega))] at r
    exact r
  have e1 : mFol f (f (2 * p + 5)) (f (2 * p + 3)) 1 (f (2 * p + 4)) 1 = f 1 := mFol_lo (by omega)
  unfold mJoin
  refine WF_pages (WF_out h1 (by rw [e1]; omega)) (by rw [mOut_1, e1]; omega) (by omega)
theorem WF_split {f : Int → Int} {cap p y : Int} (hw : WF f cap) (hc : cap ≤ 999999) (hn9 : f 1 ≤ 29) (hp : 0 ≤ p ∧ p < f 1) (hy : 1 ≤ y ∧ y < f (2 * p + 4)) : WF (mSplit f p y) (cap + 1) := by
  have hn := hw.n
  have hx := hw.nx
  have q0 := hw.ex p hp.1 hp.2
  have l (j : Int) (hj : j < 66) : mFol f (f (2 * p + 3)) (f 2) (y + 1) (-y) j = f j := mFol_lo hj
  have h1 := WF_fol (c2 := f 2 + 1) (cap2 := cap + 1) (x := f (2 * p + 3)) (x2 := f 2) (fr := y + 1) (mo := -y) hw (by omega) (by omega) (by omega) (by omega) (by omega)
  have h2 : WF (mCome (mFol f (f (2 * p + 3)) (f 2) (y + 1) (-y)) (p + 1) (f (2 * p + 4) - y)) (cap + 1) := by
    rw [mCome_put _ (by omega), l 2 (by omega)]
    have e1 : zu (mFol f (f (2 * p + 3)) (f 2) (y + 1) (-y)) 2 (f 2 + 1) 1 = f 1 := by rw [zu_ne _ _ (by omega), l 1 (by omega)]
    refine WF_put h1 (by omega) (by rw [e1]; exact hn9) (by rw [e1]; omega) (by rw [zu_eq]; omega) (fun k k0 k1 => ?_) (by omega)
    rw [e1] at k1
    rw [zu_ne _ _ (by omega), l _ (by omega)]
    have q := hw.ex k k0 k1
    omega
  unfold mSplit
  refine WF_pages h2 ?_ (by omega)
  rw [mCome_put _ (by omega), mPut_1, zu_ne _ _ (by omega), l 1 (by omega)]
  omega
end ZWF1
