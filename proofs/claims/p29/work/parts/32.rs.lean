/-! the class's rows follow the reference's -/
section ZRS1
theorem Rg_zIn {h : Int → Int} (hr : Rg h) {n p v : Int} (hv : -2147483648 ≤ v ∧ v < 2147483648) : Rg (zIn h n p v) := by
  intro j
  simp only [zIn]
  split
  · exact hv
  · split
    · exact hr _
    · exact hr _
theorem Rg_zOut {h : Int → Int} (hr : Rg h) {n p : Int} : Rg (zOut h n p) := by
  intro j
  simp only [zOut]
  split
  · exact hr _
  · exact hr _
/-- exhibits alone change -/
theorem RS_ex {f h num pgs cc cn cp pn pm num2 pgs2 : Int → Int} (hR : RS f num pgs cc cn cp pn pm) (hx : ∀ k, 0 ≤ k → k < h 1 → num2 k = h (2 * k + 3) ∧ pgs2 k = h (2 * k + 4)) (hr : Rg num2) (hh : ∀ j, 65 ≤ j → h j = f j) : RS h num2 pgs2 cc cn cp pn pm := by
  refine ⟨hx, fun a a0 a1 => ?_, fun a b a0 a1 b0 b1 => ?_, fun a b a0 a1 b0 b1 => ?_, hr, hR.r2, hR.r3, hR.r4⟩
  · rw [hh _ (by omega), hh (32 * a + 78) (by omega)]
    exact hR.pa a a0 a1
  · rw [hh (32 * a + 65) (by omega)] at b1
    rw [hh _ (by omega), hh (32 * a + 2 * b + 67) (by omega)]
    exact hR.ci a b a0 a1 b0 b1
  · rw [hh (32 * a + 78) (by omega)] at b1
    rw [hh _ (by omega), hh (32 * a + 3 * b + 80) (by omega), hh (32 * a + 3 * b + 81) (by omega)]
    exact hR.pr a b a0 a1 b0 b1
theorem RS_out {f num pgs cc cn cp pn pm : Int → Int} {p : Int} (hR : RS f num pgs cc cn cp pn pm) (hn : f 1 ≤ 30) (hp : 0 ≤ p ∧ p < f 1) : RS (mOut f p) (zOut num (f 1) p) (zOut pgs (f 1) p) cc cn cp pn pm := by
  refine RS_ex hR (fun k k0 k1 => ?_) (Rg_zOut hR.r1) (fun j hj => mOut_hi f (by omega) hj)
  rw [mOut_1] at k1
  rw [(mOut_x f (p := p) k0 k1).1, (mOut_x f (p := p) k0 k1).2]
  simp only [zOut]
  by_cases c : p ≤ k
  · rw [if_pos (by omega), if_pos (by omega), if_pos (by omega), if_pos (by omega)]
    exact hR.ex (k + 1) (by omega) (by omega)
  · rw [if_neg (by omega), if_neg (by omega), if_neg (by omega), if_neg (by omega)]
    exact hR.ex k k0 (by omega)
theorem RS_put {f num pgs cc cn cp pn pm : Int → Int} {p x y : Int} (hR : RS f num pgs cc cn cp pn pm) (hn : f 1 ≤ 30) (hp : 0 ≤ p ∧ p ≤ f 1) (hx : -2147483648 ≤ x ∧ x < 2147483648) : RS (mPut f p x y) (zIn num (f 1) p x) (zIn pgs (f 1) p y) cc cn cp pn pm := by
  refine RS_ex hR (fun k k0 k1 => ?_) (Rg_zIn hR.r1 hx) (fun j hj => mPut_hi f (by omega) hp.2 hj)
  rw [mPut_1] at k1
  rw [(mPut_x f (p := p) (x := x) (y := y) hp.1 k0 (by omega)).1, (mPut_x f (p := p) (x := x) (y := y) hp.1 k0 (by omega)).2]
  simp only [zIn]
  by_cases c : k = p
  · rw [if_pos c, if_pos c, if_pos c, if_pos c]
    exact ⟨rfl, rfl⟩
  · rw [if_neg c, if_neg c, if_neg c, if_neg c]
    by_cases d : p < k
    · rw [if_pos (by omega), if_pos (by omega), if_pos (by omega), if_pos (by omega)]
      exact hR.ex (k - 1) (by omega) (by omega)
    · rw [if_neg (by omega), if_neg (by omega), if_neg (by omega), if_neg (by omega)]
      exact hR.ex k k0 (by omega)
theorem RS_lo {f num pgs cc cn cp pn pm : Int → Int} {j v : Int} (hR : RS f num pgs cc cn cp pn pm) (hj : j = 0 ∨ j = 2) : RS (zu f j v) num pgs cc cn cp pn pm := by
  refine RS_ex hR (fun k k0 k1 => ?_) hR.r1 (fun i hi => zu_ne _ _ (by omega))
  rw [zu_ne _ _ (by omega)] at k1
  rw [zu_ne _ _ (by omega), zu_ne _ _ (by omega)]
  exact hR.ex k k0 k1
theorem RS_come {f num pgs cc cn cp pn pm : Int → Int} {p y : Int} (hR : RS f num pgs cc cn cp pn pm) (hn : f 1 ≤ 30) (hp : 0 ≤ p ∧ p ≤ f 1) (h2 : -2147483648 ≤ f 2 ∧ f 2 < 2147483648) : RS (mCome f p y) (zIn num (f 1) p (f 2)) (zIn pgs (f 1) p y) cc cn cp pn pm := by
  unfold mCome
  exact RS_lo (RS_put hR hn hp h2) (Or.inr rfl)
theorem RS_pages {f num pgs cc cn cp pn pm : Int → Int} {p y : Int} (hR : RS f num pgs cc cn cp pn pm) (hn : f 1 ≤ 30) (hp : 0 ≤ p ∧ p < f 1) : RS (zu f (2 * p + 4) y) num (zu pgs p y) cc cn cp pn pm := by
  refine RS_ex hR (fun k k0 k1 => ?_) hR.r1 (fun i hi => zu_ne _ _ (by omega))
  rw [zu_ne _ _ (by omega)] at k1
  have q := hR.ex k k0 k1
  rw [zu_ne _ _ (by omega)]
  refine ⟨q.1, ?_⟩
  by_cases c : k = p
  · subst c
    rw [zu_eq, zu_eq]
  · rw [zu_ne _ _ c, zu_ne _ _ (by omega)]
    exact q.2
/-- citations alone change -/
theorem RS_ci {f h num pgs cc cn cp pn pm cc2 cn2 cp2 : Int → Int} (hR : RS f num pgs cc cn cp pn pm) (hl : ∀ j, 0 ≤ j → j < 65 → j ≠ 2 → h j = f j) (hn : f 1 ≤ 30) (h78 : ∀ a d, 0 ≤ a → a < 12 → 78 ≤ d → d < 97 → h (32 * a + d) = f (32 * a + d)) (hpn : ∀ a, 0 ≤ a → a < 12 → f (32 * a + 78) ≤ 6)
    (hc : ∀ a, 0 ≤ a → a < 12 → cc2 a = h (32 * a + 65)) (hx : ∀ a b, 0 ≤ a → a < 12 → 0 ≤ b → b < h (32 * a + 65) → cn2 (6 * a + b) = h (32 * a + 2 * b + 66) ∧ cp2 (6 * a + b) = h (32 * a + 2 * b + 67)) (hr : Rg cn2) : RS h num pgs cc2 cn2 cp2 pn pm := by
  refine ⟨fun k k0 k1 => ?_, fun a a0 a1 => ⟨hc a a0 a1, ?_⟩, hx, fun a b a0 a1 b0 b1 => ?_, hR.r1, hr, hR.r3, hR.r4⟩
  · rw [hl 1 (by omega) (by omega) (by omega)] at k1
    rw [hl _ (by omega) (by omega) (by omega), hl (2 * k + 4) (by omega) (by omega) (by omega)]
    exact hR.ex k k0 k1
  · rw [h78 a 78 a0 a1 (by omega) (by omega)]
    exact (hR.pa a a0 a1).2
  · rw [h78 a 78 a0 a1 (by omega) (by omega)] at b1
    have q := hpn a a0 a1
    rw [show 32 * a + 3 * b + 79 = 32 * a + (3 * b + 79) by omega, show 32 * a + 3 * b + 80 = 32 * a + (3 * b + 80) by omega, show 32 * a + 3 * b + 81 = 32 * a + (3 * b + 81) by omega, h78 a _ a0 a1 (by omega) (by omega), h78 a (3 * b + 80) a0 a1 (by omega) (by omega), h78 a (3 * b + 81) a0 a1 (by omega) (by omega), show 32 * a + (3 * b + 79) = 32 * a + 3 * b + 79 by omega, show 32 * a + (3 * b + 80) = 32 * a + 3 * b + 80 by omega, show 32 * a + (3 * b + 81) = 32 * a + 3 * b + 81 by omega]
    exact hR.pr a b a0 a1 b0 b1
theorem RS_name {f num pgs cc cn cp pn pm : Int → Int} {cap a p y : Int} (hR : RS f num pgs cc cn cp pn pm) (hw : WF f cap) (ha : 0 ≤ a ∧ a < 12) (hp : 0 ≤ p ∧ p < f 1) (h6 : f (32 * a + 65) ≤ 5) : RS (mName f a p y) num pgs (zu cc a (cc a + 1)) (zu cn (6 * a + cc a) (num p)) (zu cp (6 * a + cc a) y) pn pm := by
  have hpa := hw.pa a ha.1 ha.2
  have hn := hw.n
  have ec := (hR.pa a ha.1 ha.2).1
  have en := (hR.ex p hp.1 hp.2).1
  have hrp := hR.r1 p
  rw [ec]
  generalize hN : f (32 * a + 65) = N at *
  have e (j : Int) (h1 : j ≠ 32 * a + 2 * N + 66) (h2 : j ≠ 32 * a + 2 * N + 67) (h3 : j ≠ 32 * a + 65) : mName f a p y j = f j := by
    simp only [mName, hN]
    rw [zu_ne _ _ h3, zu_ne _ _ h2, zu_ne _ _ h1]
  have e3 : mName f a p y (32 * a + 65) = N + 1 := by simp only [mName, hN]; rw [zu_eq]
  have e4 : mName f a p y (32 * a + 2 * N + 66) = f (2 * p + 3) := by
    simp only [mName, hN]
    rw [zu_ne _ _ (by omega), zu_ne _ _ (by omega), zu_eq]
  have e5 : mName f a p y (32 * a + 2 * N + 67) = y := by
    simp only [mName, hN]
    rw [zu_ne _ _ (by omega), zu_eq]
  refine RS_ci hR (fun j j0 j1 _ => e j (by omega) (by omega) (by omega)) hn.2 (fun a2 d a0 a1 d0 d1 => e _ (by omega) (by omega) (by omega)) (fun a2 a0 a1 => (hw.pa a2 a0 a1).2.2.2) (fun a2 a0 a1 => ?_) (fun a2 b a0 a1 b0 b1 => ?_) (Rg_zu hR.r2 hrp)
  · by_cases c : a2 = a
    · subst c
      rw [zu_eq, e3]
    · rw [zu_ne _ _ c, e _ (by omega) (by omega) (by omega)]
      exact (hR.pa a2 a0 a1).1
  · by_cases c : a2 = a
    · subst c
      rw [e3] at b1
      by_cases d : b = N
      · subst d
        rw [zu_eq, zu_eq, e4, e5]
        exact ⟨en, rfl⟩
      · rw [zu_ne _ _ (by omega), zu_ne _ _ (by omega), e _ (by omega) (by omega) (by omega), e (32 * a2 + 2 * b + 67) (by omega) (by omega) (by omega)]
        exact hR.ci a2 b a0 a1 b0 (by omega)
    · have q := hw.pa a2 a0 a1
      rw [e (32 * a2 + 65) (by omega) (by omega) (by omega)] at b1
      rw [zu_ne _ _ (by omega), zu_ne _ _ (by omega), e _ (by omega) (by omega) (by omega), e (32 * a2 + 2 * b + 67) (by omega) (by omega) (by omega)]
      exact hR.ci a2 b a0 a1 b0 b1
theorem RS_fol {f num pgs cc cn cp pn pm : Int → Int} {cap x x2 fr mo : Int} {P : Int → Bool} (hR : RS f num pgs cc cn cp pn pm) (hw : WF f cap) (hP : ∀ y, 1 ≤ y → y ≤ 60 → (P y = true ↔ (fr ≤ y ∧ y + mo ≤ 60))) (hx2 : -2147483648 ≤ x2 ∧ x2 < 2147483648) : RS (mFol f x x2 fr mo) num pgs cc (iFn cc cn cp P x x2 72) (iFp cc cn cp P x mo 72) pn pm := by
  have hn := hw.n
  refine RS_ci hR (fun j j0 j1 _ => mFol_lo (by omega)) hn.2 (fun a d a0 a1 d0 d1 => mFol_pr (hw.pa a a0 a1).2.1 ⟨d0, d1⟩) (fun a a0 a1 => (hw.pa a a0 a1).2.2.2) (fun a a0 a1 => ?_) (fun a b a0 a1 b0 b1 => ?_) (fun j => ?_)
  · rw [mFol_cnt]
    exact (hR.pa a a0 a1).1
  · rw [mFol_cnt] at b1
    have q := hw.pa a a0 a1
    have r := hw.ci a b a0 a1 b0 b1
    have e := hR.ci a b a0 a1 b0 b1
    have ec := (hR.pa a a0 a1).1
    have m := mFol_at (f := f) (x := x) (x2 := x2) (fr := fr) (mo := mo) ⟨a0, a1⟩ ⟨b0, b1⟩ (by omega)
    have d1 : (6 * a + b) / 6 = a := by omega
    have d2 : (6 * a + b) % 6 = b := by omega
    rw [m.1, m.2]
    simp only [iFn, iFp]
    rw [d1, d2, e.1, e.2]
    by_cases c : mHitB f x fr mo (32 * a + 2 * b + 66) = true
    · have c2 := of_decide_eq_true c
      rw [show 32 * a + 2 * b + 66 + 1 = 32 * a + 2 * b + 67 by omega] at c2
      have c3 : 0 ≤ 6 * a + b ∧ 6 * a + b < 72 ∧ b < cc a ∧ f (32 * a + 2 * b + 66) = x ∧ P (f (32 * a + 2 * b + 67)) = true := ⟨by omega, by omega, by omega, c2.1, (hP _ (by omega) (by omega)).mpr c2.2⟩
      rw [if_pos c, if_pos c, if_pos c3, if_pos c3]
      exact ⟨rfl, rfl⟩
    · have c3 : ¬ (0 ≤ 6 * a + b ∧ 6 * a + b < 72 ∧ b < cc a ∧ f (32 * a + 2 * b + 66) = x ∧ P (f (32 * a + 2 * b + 67)) = true) := fun z => by
        have z2 := (hP _ (by omega) (by omega)).mp z.2.2.2.2
        refine c (decide_eq_true ⟨z.2.2.2.1, ?_⟩)
        rw [show 32 * a + 2 * b + 66 + 1 = 32 * a + 2 * b + 67 by omega]
        exact z2
      rw [if_neg c, if_neg c, if_neg c3, if_neg c3]
      exact ⟨rfl, rfl⟩
  · simp only [iFn]
    split
    · exact hx2
    · exact hR.r2 j
/-- closing up: the class's rows and the reference's -/
theorem cl_both {f num pgs cc cn cp pn pm lt lo vb vt vf : Int → Int} {cap a : Int} (hR : RS f num pgs cc cn cp pn pm) (hV : VR f vb vt vf lt lo) (hw : WF f cap) (ha : 0 ≤ a ∧ a < 12) : ∀ c : Nat, (c : Int) ≤ f (32 * a + 65) → iLf lo a c = mLeft f a c ∧ (∀ b, 0 ≤ b → b < mLeft f a c → iCl cn lo a c (6 * a + b) = mCln f a c (32 * a + 2 * b + 66) ∧ iCl cp lo a c (6 * a + b) = mCln f a c (32 * a + 2 * b + 67)) ∧ (∀ j, j < 6 * a → iCl cn lo a c j = cn j ∧ iCl cp lo a c j = cp j) ∧ Rg (iCl cn lo a c) ∧
    (∀ b, 0 ≤ b → b < mLeft f a c → ∃ b2 : Int, 0 ≤ b2 ∧ b2 < (c : Int) ∧ mCln f a c (32 * a + 2 * b + 66) = f (32 * a + 2 * b2 + 66) ∧ mCln f a c (32 * a + 2 * b + 67) = f (32 * a + 2 * b2 + 67))
  | 0, _ => ⟨rfl, fun b b0 b1 => absurd b1 (by
      have e : mLeft f a ((0 : Nat) : Int) = 0 := rfl
      omega), fun j hj => ⟨rfl, rfl⟩, hR.r2, fun b b0 b1 => absurd b1 (by
      have e : mLeft f a ((0 : Nat) : Int) = 0 := rfl
      omega)⟩
  | c + 1, hc => by
    obtain ⟨i1, i2, i3, i4, i5⟩ := cl_both hR hV hw ha c (by omega)
    have hpa := hw.pa a ha.1 ha.2
    have hv := (hV.2.1 a c ha.1 ha.2 (by omega) (by omega)).2
    have hl := mLeft_rng f a (c := (c : Int)) (by omega)
    have ei := iLf_1 (lo := lo) (a := a) (c := (c : Int)) (by omega)
    have em := mLeft_1 (f := f) (a := a) (c := (c : Int)) (by omega)
    have en := iCl_1 (src := cn) (lo := lo) (a := a) (c := (c : Int)) (by omega)
    have ep := iCl_1 (src := cp) (lo := lo) (a := a) (c := (c : Int)) (by omega)
    have ek := mCln_1 (f := f) (a := a) (c := (c : Int)) (by omega)
    have hci := hR.ci a c ha.1 ha.2 (by omega) (by omega)
    rw [show ((c + 1 : Nat) : Int) = (c : Int) + 1 by omega]
    cases hs : sLost f a c with
    | true =>
      have hb1 : lo (6 * a + c) = 1 := by rw [hv, hs]; rfl
      have q0 : ¬ lo (6 * a + c) = 0 := by omega
      rw [if_neg q0] at en ep
      rw [b2i_0 q0] at ei
      rw [hs] at em ek
      rw [if_pos rfl] at ek
      have e0 : b2i (!true) = 0 := rfl
      rw [e0, Int.add_zero] at em
      rw [Int.add_zero] at ei
      rw [ei, em, en, ep, ek]
      exact ⟨i1, i2, i3, i4, fun b b0 b1 => by
        obtain ⟨b2, c0, c1, c2⟩ := i5 b b0 b1
        exact ⟨b2, c0, by omega, c2⟩⟩
    | false =>
      have hb1 : lo (6 * a + c) = 0 := by rw [hv, hs]; rfl
      rw [if_pos hb1] at en ep
      rw [b2i_1 hb1] at ei
      rw [hs] at em ek
      rw [if_neg (by decide)] at ek
      have e0 : b2i (!false) = 1 := rfl
      rw [e0] at em
      rw [ei, em, en, ep, ek, i1]
      refine ⟨rfl, fun b b0 b1 => ?_, fun j hj => ?_, Rg_zu i4 (hR.r2 _), fun b b0 b1 => ?_⟩
      · by_cases d : b = mLeft f a c
        · subst d
          rw [zu_eq, zu_eq, zu_ne _ _ (by omega), zu_eq, zu_eq]
          exact hci
        · rw [zu_ne _ _ (by omega), zu_ne _ _ (by omega), zu_ne _ _ (by omega), zu_ne _ _ (by omega), zu_ne _ _ (by omega), zu_ne _ _ (by omega)]
          exact i2 b b0 (by omega)
      · rw [zu_ne _ _ (by omega), zu_ne _ _ (by omega)]
        exact i3 j hj
      · by_cases d : b = mLeft f a c
        · subst d
          rw [zu_ne _ _ (by omega), zu_eq, zu_eq]
          exact ⟨(c : Int), by omega, by omega, rfl, rfl⟩
        · obtain ⟨b2, c0, c1, c2⟩ := i5 b b0 (by omega)
          rw [zu_ne _ _ (by omega), zu_ne _ _ (by omega), zu_ne _ _ (by omega), zu_ne _ _ (by omega)]
          exact ⟨b2, c0, by omega, c2⟩
theorem mClean_at {f : Int → Int} {cap a : Int} (hw : WF f cap) (ha : 0 ≤ a ∧ a < 12) : (∀ j, j < 32 * a + 65 → mClean f a j = f j) ∧ mClean f a (32 * a + 65) = mLeft f a (f (32 * a + 65)) ∧ (∀ j, 32 * a + 78 ≤ j → mClean f a j = f j) ∧ (∀ b, 0 ≤ b → mClean f a (32 * a + 2 * b + 66) = mCln f a (f (32 * a + 65)) (32 * a + 2 * b + 66) ∧ mClean f a (32 * a + 2 * b + 67) = mCln f a (f (32 * a + 65)) (32 * a + 2 * b + 67)) := by
  have q := hw.pa a ha.1 ha.2
  unfold mClean
  refine ⟨fun j hj => ?_, zu_eq _ _ _, fun j hj => ?_, fun b b0 => ?_⟩
  · rw [zu_ne _ _ (by omega), mCln_out q.1 (by omega)]
  · rw [zu_ne _ _ (by omega), mCln_out q.1 (by omega)]
  · rw [zu_ne _ _ (by omega), zu_ne _ _ (by omega)]
    exact ⟨rfl, rfl⟩
theorem Rg_clean {f : Int → Int} {cap a : Int} (hw : WF f cap) (ha : 0 ≤ a ∧ a < 12) : Rg (mClean f a) := by
  have q := hw.pa a ha.1 ha.2
  have r := mLeft_rng f a (c := f (32 * a + 65)) q.1
  unfold mClean
  refine Rg_zu (fun j => ?_) (by omega)
  unfold mCln
  exact mClnF_rg hw.rg _ j
theorem WF_clean {f num pgs cc cn cp pn pm lt lo vb vt vf : Int → Int} {cap a : Int} (hR : RS f num pgs cc cn cp pn pm) (hV : VR f vb vt vf lt lo) (hw : WF f cap) (ha : 0 ≤ a ∧ a < 12) : WF (mClean f a) cap := by
  have q := hw.pa a ha.1 ha.2
  have r := mLeft_rng f a (c := f (32 * a + 65)) q.1
  obtain ⟨m1, m2, m3, m4⟩ := mClean_at hw ha
  have hb := cl_both hR hV hw ha (f (32 * a + 65)).toNat (by omega)
  rw [Int.toNat_of_nonneg q.1] at hb
  obtain ⟨-, -, -, -, h5⟩ := hb
  have e2 := m1 2 (by omega)
  refine WF_ci hw (Rg_clean hw ha) (fun j j0 j1 _ => m1 j (by omega)) (by rw [e2]; have := hw.nx; omega) (fun a2 a0 a1 => ?_) (fun a2 b a0 a1 b0 b1 => ?_) (fun a2 b a0 a1 b0 b1 => ?_)
  · have q2 := hw.pa a2 a0 a1
    rcases Int.lt_trichotomy a2 a with c | c | c
    · rw [m1 _ (by omega), m1 (32 * a2 + 78) (by omega)]
      exact q2
    · subst c
      rw [m2, m3 _ (by omega)]
      omega
    · rw [m3 _ (by omega), m3 (32 * a2 + 78) (by omega)]
      exact q2
  · rw [e2]
    rcases Int.lt_trichotomy a2 a with c | c | c
    · have q2 := hw.pa a2 a0 a1
      rw [m1 _ (by omega)] at b1
      rw [m1 _ (by omega), m1 (32 * a2 + 2 * b + 67) (by omega)]
      exact hw.ci a2 b a0 a1 b0 b1
    · subst c
      rw [m2] at b1
      obtain ⟨b2, c0, c1, c2, c3⟩ := h5 b b0 b1
      rw [(m4 b b0).1, (m4 b b0).2, c2, c3]
      exact hw.ci a2 b2 a0 a1 c0 c1
    · rw [m3 _ (by omega)] at b1
      rw [m3 _ (by omega), m3 (32 * a2 + 2 * b + 67) (by omega)]
      exact hw.ci a2 b a0 a1 b0 b1
  · have e (d : Int) (d0 : 78 ≤ d) (d1 : d < 97) : mClean f a (32 * a2 + d) = f (32 * a2 + d) := by
      by_cases c : a2 < a
      · exact m1 _ (by omega)
      · exact m3 _ (by omega)
    have q2 := hw.pa a2 a0 a1
    rw [e 78 (by omega) (by omega)] at b1
    rw [show 32 * a2 + 3 * b + 79 = 32 * a2 + (3 * b + 79) by omega, show 32 * a2 + 3 * b + 80 = 32 * a2 + (3 * b + 80) by omega, show 32 * a2 + 3 * b + 81 = 32 * a2 + (3 * b + 81) by omega, e _ (by omega) (by omega), e (3 * b + 80) (by omega) (by omega), e (3 * b + 81) (by omega) (by omega), show 32 * a2 + (3 * b + 79) = 32 * a2 + 3 * b + 79 by omega, show 32 * a2 + (3 * b + 80) = 32 * a2 + 3 * b + 80 by omega, show 32 * a2 + (3 * b + 81) = 32 * a2 + 3 * b + 81 by omega]
    exact hw.pr a2 b a0 a1 b0 b1
theorem RS_clean {f num pgs cc cn cp pn pm lt lo vb vt vf : Int → Int} {cap a : Int} (hR : RS f num pgs cc cn cp pn pm) (hV : VR f vb vt vf lt lo) (hw : WF f cap) (ha : 0 ≤ a ∧ a < 12) : RS (mClean f a) num pgs (zu cc a (iLf lo a (cc a))) (iCl cn lo a (cc a)) (iCl cp lo a (cc a)) pn pm ∧ iLf lo a (cc a) = mLeft f a (f (32 * a + 65)) := by
  have q := hw.pa a ha.1 ha.2
  have hn := hw.n
  have r := mLeft_rng f a (c := f (32 * a + 65)) q.1
  obtain ⟨m1, m2, m3, m4⟩ := mClean_at hw ha
  have hb := cl_both hR hV hw ha (f (32 * a + 65)).toNat (by omega)
  rw [Int.toNat_of_nonneg q.1] at hb
  obtain ⟨h1, h2, h3, h4, -⟩ := hb
  have ec := (hR.pa a ha.1 ha.2).1
  rw [ec, h1]
  refine ⟨?_, rfl⟩
  have e (a2 d : Int) (d0 : 78 ≤ d) (d1 : d < 97) : mClean f a (32 * a2 + d) = f (32 * a2 + d) := by
    by_cases c : a2 < a
    · exact m1 _ (by omega)
    · exact m3 _ (by omega)
  refine RS_ci hR (fun j j0 j1 _ => m1 j (by omega)) hn.2 (fun a2 d a0 a1 d0 d1 => e a2 d d0 d1) (fun a2 a0 a1 => (hw.pa a2 a0 a1).2.2.2) (fun a2 a0 a1 => ?_) (fun a2 b a0 a1 b0 b1 => ?_) h4
  · rcases Int.lt_trichotomy a2 a with c | c | c
    · rw [zu_ne _ _ (by omega), m1 _ (by omega)]
      exact (hR.pa a2 a0 a1).1
    · subst c
      rw [zu_eq, m2]
    · rw [zu_ne _ _ (by omega), m3 _ (by omega)]
      exact (hR.pa a2 a0 a1).1
  · rcases Int.lt_trichotomy a2 a with c | c | c
    · have q2 := hw.pa a2 a0 a1
      rw [m1 _ (by omega)] at b1
      rw [m1 _ (by omega), m1 (32 * a2 + 2 * b + 67) (by omega), (h3 (6 * a2 + b) (by omega)).1, (h3 (6 * a2 + b) (by omega)).2]
      exact hR.ci a2 b a0 a1 b0 b1
    · subst c
      rw [m2] at b1
      rw [(m4 b b0).1, (m4 b b0).2]
      exact h2 b b0 b1
    · rw [m3 _ (by omega)] at b1
      have q2 := hw.pa a2 a0 a1
      rw [m3 _ (by omega), m3 (32 * a2 + 2 * b + 67) (by omega), iCl_ge q.1 (by omega), iCl_ge q.1 (by omega)]
      exact hR.ci a2 b a0 a1 b0 b1
end ZRS1
