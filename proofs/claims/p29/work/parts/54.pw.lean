/-! what holds of the reference's state holds behind each call -/
section ZPW
theorem PW_mono {cap k ty : Int} {f past tx : Int → Int} (h : PW cap f k past ty tx) (hc : cap + 1 ≤ 100000) : PW (cap + 1) f k past ty tx := by
  obtain ⟨hw, hk, hp, hty, htx, hr, hrp, -⟩ := h
  exact ⟨hw.mono (by omega), hk, fun i i0 i1 => (hp i i0 i1).mono (by omega), hty, htx, hr, hrp, hc⟩
/-- a call that saves -/
theorem PW_op {cap k ty K : Int} {f f2 past tx : Int → Int} (h : PW cap f k past ty tx) (hc : cap + 1 ≤ 100000) (hw : K = 0 → WF f2 (cap + 1)) : PW (cap + 1) (if K = 0 then f2 else f) (if K = 0 then mKp k + 1 else k) (if K = 0 then mSav f past k else past) ty tx := by
  by_cases hk : K = 0
  · rw [if_pos hk, if_pos hk, if_pos hk]
    exact PW_sav h (hw hk) (by omega)
  · rw [if_neg hk, if_neg hk, if_neg hk]
    exact PW_mono h hc
theorem PW_ins {cap k ty p y : Int} {f past tx : Int → Int} (h : PW cap f k past ty tx) (hc : cap + 1 ≤ 100000) : PW (cap + 1) (if kIns f p y = 0 then mCome f p y else f) (if kIns f p y = 0 then mKp k + 1 else k) (if kIns f p y = 0 then mSav f past k else past) ty tx :=
  PW_op h hc (fun hk => by
    have hn := h.1.n
    have hq : (0 ≤ p ∧ p ≤ f 1) ∧ (1 ≤ y ∧ y ≤ 60) ∧ f 1 ≤ 29 := by
      unfold kIns at hk
      repeat (first | omega | split at hk)
    exact WF_come h.1 (by omega) hq.2.2 hq.1 hq.2.1)
theorem PW_mov {cap k ty p t : Int} {f past tx : Int → Int} (h : PW cap f k past ty tx) (hc : cap + 1 ≤ 100000) : PW (cap + 1) (if kMov f p t = 0 then mMove f p t else f) (if kMov f p t = 0 then mKp k + 1 else k) (if kMov f p t = 0 then mSav f past k else past) ty tx :=
  PW_op h hc (fun hk => by
    have hq : (0 ≤ p ∧ p < f 1) ∧ (0 ≤ t ∧ t < f 1) := by
      unfold kMov at hk
      repeat (first | omega | split at hk)
    exact (WF_move h.1 (by omega) hq.1 hq.2).mono (by omega))
theorem PW_drp {cap k ty p : Int} {f past tx : Int → Int} (h : PW cap f k past ty tx) (hc : cap + 1 ≤ 100000) : PW (cap + 1) (if kPl f p = 0 then mOut f p else f) (if kPl f p = 0 then mKp k + 1 else k) (if kPl f p = 0 then mSav f past k else past) ty tx :=
  PW_op h hc (fun hk => by
    have hq : 0 ≤ p ∧ p < f 1 := by
      unfold kPl at hk
      repeat (first | omega | split at hk)
    exact (WF_out h.1 hq).mono (by omega))
theorem PW_pgs {cap k ty p y : Int} {f past tx : Int → Int} (h : PW cap f k past ty tx) (hc : cap + 1 ≤ 100000) : PW (cap + 1) (if kPgs f p y = 0 then zu f (2 * p + 4) y else f) (if kPgs f p y = 0 then mKp k + 1 else k) (if kPgs f p y = 0 then mSav f past k else past) ty tx :=
  PW_op h hc (fun hk => by
    have hq : (0 ≤ p ∧ p < f 1) ∧ (1 ≤ y ∧ y ≤ 60) := by
      unfold kPgs at hk
      repeat (first | omega | split at hk)
    exact (WF_pages h.1 hq.1 hq.2).mono (by omega))
theorem PW_joi {cap k ty p : Int} {f past tx : Int → Int} (h : PW cap f k past ty tx) (hc : cap + 1 ≤ 100000) : PW (cap + 1) (if kJoi f p = 0 then mJoin f p else f) (if kJoi f p = 0 then mKp k + 1 else k) (if kJoi f p = 0 then mSav f past k else past) ty tx :=
  PW_op h hc (fun hk => by
    have hq : (0 ≤ p ∧ p < f 1 - 1) ∧ f (2 * p + 4) + f (2 * p + 6) ≤ 60 := by
      unfold kJoi at hk
      repeat (first | omega | split at hk)
    exact (WF_join h.1 (by omega) hq.1 hq.2).mono (by omega))
theorem PW_spl {cap k ty p y : Int} {f past tx : Int → Int} (h : PW cap f k past ty tx) (hc : cap + 1 ≤ 100000) : PW (cap + 1) (if kSpl f p y = 0 then mSplit f p y else f) (if kSpl f p y = 0 then mKp k + 1 else k) (if kSpl f p y = 0 then mSav f past k else past) ty tx :=
  PW_op h hc (fun hk => by
    have hn := h.1.n
    have hq : (0 ≤ p ∧ p < f 1) ∧ (1 ≤ y ∧ y < f (2 * p + 4)) ∧ f 1 ≤ 29 := by
      unfold kSpl at hk
      repeat (first | omega | split at hk)
    exact WF_split h.1 (by omega) hq.2.2 hq.1 hq.2.1)
theorem PW_cit {cap k ty a p y : Int} {f past tx : Int → Int} (h : PW cap f k past ty tx) (hc : cap + 1 ≤ 100000) : PW (cap + 1) (if kCit f a p y = 0 then mName f a p y else f) (if kCit f a p y = 0 then mKp k + 1 else k) (if kCit f a p y = 0 then mSav f past k else past) ty tx :=
  PW_op h hc (fun hk => by
    have hq : (0 ≤ a ∧ a < 12) ∧ (0 ≤ p ∧ p < f 1) ∧ (1 ≤ y ∧ y ≤ 60) ∧ f (32 * a + 65) ≠ 6 := by
      unfold kCit at hk
      repeat (first | omega | split at hk)
    have hpa := h.1.pa a hq.1.1 hq.1.2
    exact (WF_name h.1 (by omega) hq.1 hq.2.1 hq.2.2.1 (by omega)).mono (by omega))
theorem kPar_0 {a : Int} (hk : kPar a = 0) : 0 ≤ a ∧ a < 12 := by
  unfold kPar at hk
  repeat (first | omega | split at hk)
theorem PW_cln {cap k ty a : Int} {f past tx : Int → Int} {g : zG} {C : Nat → va_E} (h : PW cap f k past ty tx) (hI : IW g C f k past ty tx) (hc : cap + 1 ≤ 100000) : PW (cap + 1) (if kPar a = 0 then mClean f a else f) (if kPar a = 0 then mKp k + 1 else k) (if kPar a = 0 then mSav f past k else past) ty tx :=
  PW_op h hc (fun hk => by
    obtain ⟨-, ⟨num, pgs, cc, cn, cp, pn, pm, -, hR⟩, ⟨vb, vt, vf, lt, lo, -, hV⟩, -, -, -⟩ := hI
    exact (WF_clean hR hV h.1 (kPar_0 hk)).mono (by omega))
theorem PW_prt {cap k ty a : Int} {f past tx : Int → Int} (h : PW cap f k past ty tx) (hc : cap + 1 ≤ 100000) : PW (cap + 1) (if kPar a = 0 then mPrint f a else f) (if kPar a = 0 then mKp k + 1 else k) (if kPar a = 0 then mSav f past k else past) ty tx :=
  PW_op h hc (fun hk => (WF_print h.1 (kPar_0 hk)).mono (by omega))
theorem PW_set {cap k ty y : Int} {f past tx : Int → Int} (h : PW cap f k past ty tx) (hc : cap + 1 ≤ 100000) : PW (cap + 1) (if kSet y = 0 then zu f 0 y else f) (if kSet y = 0 then mKp k + 1 else k) (if kSet y = 0 then mSav f past k else past) ty tx :=
  PW_op h hc (fun hk => by
    have hq : 10 ≤ y ∧ y ≤ 200 := by
      unfold kSet at hk
      repeat (first | omega | split at hk)
    exact (WF_set h.1 hq).mono (by omega))
theorem PW_app {cap k ty x : Int} {f past tx : Int → Int} (h : PW cap f k past ty tx) (hc : cap + 1 ≤ 100000) : PW (cap + 1) f k past (if kApp ty x = 0 then ty + 1 else ty) (if kApp ty x = 0 then zu tx ty x else tx) := by
  obtain ⟨hw, hk, hp, hty, htx, hr, hrp, -⟩ := PW_mono h hc
  by_cases c : kApp ty x = 0
  · have hq : (33 ≤ x ∧ x ≤ 126) ∧ ty ≠ 60 := by
      unfold kApp at c
      repeat (first | omega | split at c)
    rw [if_pos c, if_pos c]
    refine ⟨hw, hk, hp, by omega, fun j j0 j1 => ?_, Rg_zu hr (by omega), hrp, hc⟩
    by_cases d : j = ty
    · subst d
      rw [zu_eq]
      exact hq.1
    · rw [zu_ne _ _ d]
      exact htx j j0 (by omega)
  · rw [if_neg c, if_neg c]
    exact ⟨hw, hk, hp, hty, htx, hr, hrp, hc⟩
theorem PW_clr {cap k ty : Int} {f past tx : Int → Int} (h : PW cap f k past ty tx) (hc : cap + 1 ≤ 100000) : PW (cap + 1) f k past 0 tx := by
  obtain ⟨hw, hk, hp, hty, htx, hr, hrp, -⟩ := PW_mono h hc
  exact ⟨hw, hk, hp, by omega, fun j j0 j1 => by omega, hr, hrp, hc⟩
theorem WF_nms {f td : Int → Int} {cap a : Int} (hw : WF f cap) (hc : cap ≤ 1000000) (ha : 0 ≤ a ∧ a < 12) : ∀ n : Nat, n ≤ 6 → (∀ j : Int, 0 ≤ j → j < n → 0 ≤ td (2 * j) ∧ td (2 * j) < f 1 ∧ 1 ≤ td (2 * j + 1) ∧ td (2 * j + 1) ≤ 60) → WF (mNms f a td n) cap
  | 0, _, _ => by
    rw [show ((0 : Nat) : Int) = 0 by rfl, mNms_0]
    exact WF_zero hw ha
  | n + 1, h6, ht => by
    have ih := WF_nms hw hc ha n (by omega) (fun j j0 j1 => ht j j0 (by omega))
    have q := ht n (by omega) (by omega)
    have e := nms_012 (f := f) (td := td) (a := a) (n := (n : Int)) ha.1 (by omega)
    rw [show ((n + 1 : Nat) : Int) = (n : Int) + 1 by omega, mNms_1 (by omega)]
    exact WF_name ih hc ha (by rw [e.1]; omega) (by omega) (by rw [mNms_n (by omega)]; omega)
theorem PW_cal {cap k ty a : Int} {f past tx td : Int → Int} (h : PW cap f k past ty tx) (hc : cap + 1 ≤ 100000) : PW (cap + 1) (if kCal f a (tAll tx ty td) = 0 then mNms f a (tAll tx ty td).2.2.2 (tAll tx ty td).2.2.1 else f) (if kCal f a (tAll tx ty td) = 0 then mKp k + 1 else k) (if kCal f a (tAll tx ty td) = 0 then mSav f past k else past) (if kCal f a (tAll tx ty td) = 0 then 0 else ty) tx := by
  have key : PW (cap + 1) (if kCal f a (tAll tx ty td) = 0 then mNms f a (tAll tx ty td).2.2.2 (tAll tx ty td).2.2.1 else f) (if kCal f a (tAll tx ty td) = 0 then mKp k + 1 else k) (if kCal f a (tAll tx ty td) = 0 then mSav f past k else past) ty tx := PW_op h hc (fun hk => by
    have hqa : 0 ≤ a ∧ a < 12 := by
      unfold kCal at hk
      split at hk
      · omega
      · omega
    have hqc : (tAll tx ty td).1 = true := by
      unfold kCal at hk
      rw [if_neg (fun z => z hqa)] at hk
      by_cases z : (tAll tx ty td).1 = false
      · rw [if_pos z] at hk; omega
      · exact Bool.of_not_eq_false z
    have hqg : tGood (tAll tx ty td).2.2.2 (tAll tx ty td).2.2.1 (f 1) = true := by
      unfold kCal at hk
      rw [if_neg (fun z => z hqa), if_neg (by rw [hqc]; decide)] at hk
      by_cases z : tGood (tAll tx ty td).2.2.2 (tAll tx ty td).2.2.1 (f 1) = false
      · rw [if_pos z] at hk; omega
      · exact Bool.of_not_eq_false z
    have hqt := tGood_t.mp hqg
    have hTN := tAll_n tx td ty
    have hTO := tAll_told tx td ty
    have w := WF_nms (td := (tAll tx ty td).2.2.2) h.1 (by have := h.2.2.2.2.2.2.2; omega) hqa (tAll tx ty td).2.2.1.toNat (by omega) (fun j j0 j1 => by
      have q1 := hqt j j0 (by omega)
      have q2 := hTO j j0 (by omega)
      omega)
    rw [Int.toNat_of_nonneg hTN.1] at w
    exact w.mono (by omega))
  by_cases c : kCal f a (tAll tx ty td) = 0
  · rw [if_pos c, if_pos c, if_pos c] at key
    rw [if_pos c, if_pos c, if_pos c, if_pos c]
    obtain ⟨hw, hk, hp, hty, htx, hr, hrp, hc2⟩ := key
    exact ⟨hw, hk, hp, by omega, fun j j0 j1 => by omega, hr, hrp, hc2⟩
  · rw [if_neg c, if_neg c, if_neg c] at key
    rw [if_neg c, if_neg c, if_neg c, if_neg c]
    exact key
theorem PW_und {cap k ty : Int} {f past tx : Int → Int} (h : PW cap f k past ty tx) (hc : cap + 1 ≤ 100000) : PW (cap + 1) (if kUnd k = 0 then mPast past (k - 1) else f) (if kUnd k = 0 then k - 1 else k) past ty tx := by
  obtain ⟨hw, hk, hp, hty, htx, hr, hrp, -⟩ := PW_mono h hc
  by_cases c : kUnd k = 0
  · have hq : k ≠ 0 := by
      unfold kUnd at c
      split at c <;> omega
    rw [if_pos c, if_pos c]
    exact ⟨hp _ (by omega) (by omega), by omega, fun i i0 i1 => hp i i0 (by omega), hty, htx, hr, hrp, hc⟩
  · rw [if_neg c, if_neg c]
    exact ⟨hw, hk, hp, hty, htx, hr, hrp, hc⟩
theorem Rg_tall {tx td : Int → Int} {ty : Int} (h : Rg td) : Rg (tAll tx ty td).2.2.2 := (tRun_rng tx ty 6 0 0 td h).2.2
theorem kIns_b (f : Int → Int) (p y : Int) : 0 ≤ kIns f p y ∧ kIns f p y ≤ 3 := by
  unfold kIns
  (repeat' split) <;> omega
theorem kMov_b (f : Int → Int) (p t : Int) : 0 ≤ kMov f p t ∧ kMov f p t ≤ 3 := by
  unfold kMov
  (repeat' split) <;> omega
theorem kPl_b (f : Int → Int) (p : Int) : 0 ≤ kPl f p ∧ kPl f p ≤ 3 := by
  unfold kPl
  (repeat' split) <;> omega
theorem kPgs_b (f : Int → Int) (p y : Int) : 0 ≤ kPgs f p y ∧ kPgs f p y ≤ 3 := by
  unfold kPgs
  (repeat' split) <;> omega
theorem kJoi_b (f : Int → Int) (p : Int) : 0 ≤ kJoi f p ∧ kJoi f p ≤ 3 := by
  unfold kJoi
  (repeat' split) <;> omega
theorem kSpl_b (f : Int → Int) (p y : Int) : 0 ≤ kSpl f p y ∧ kSpl f p y ≤ 3 := by
  unfold kSpl
  (repeat' split) <;> omega
theorem kCit_b (f : Int → Int) (a p y : Int) : 0 ≤ kCit f a p y ∧ kCit f a p y ≤ 3 := by
  unfold kCit
  (repeat' split) <;> omega
theorem kPar_b (a : Int) : 0 ≤ kPar a ∧ kPar a ≤ 3 := by
  unfold kPar
  (repeat' split) <;> omega
theorem kSet_b (y : Int) : 0 ≤ kSet y ∧ kSet y ≤ 3 := by
  unfold kSet
  (repeat' split) <;> omega
theorem kApp_b (ty x : Int) : 0 ≤ kApp ty x ∧ kApp ty x ≤ 3 := by
  unfold kApp
  (repeat' split) <;> omega
theorem kUnd_b (k : Int) : 0 ≤ kUnd k ∧ kUnd k ≤ 3 := by
  unfold kUnd
  (repeat' split) <;> omega
theorem kExh_b (p w : Int) : 0 ≤ kExh p w ∧ kExh p w ≤ 3 := by
  unfold kExh
  (repeat' split) <;> omega
theorem kCtn_b (a b w : Int) : 0 ≤ kCtn a b w ∧ kCtn a b w ≤ 3 := by
  unfold kCtn
  (repeat' split) <;> omega
theorem kPrg_b (a w : Int) : 0 ≤ kPrg a w ∧ kPrg a w ≤ 3 := by
  unfold kPrg
  (repeat' split) <;> omega
theorem kCnt_b (w : Int) : 0 ≤ kCnt w ∧ kCnt w ≤ 3 := by
  unfold kCnt
  (repeat' split) <;> omega
theorem kIfI_b (f : Int → Int) (p y w : Int) : 0 ≤ kIfI f p y w ∧ kIfI f p y w ≤ 3 := by
  unfold kIfI
  (repeat' split) <;> omega
theorem kIfD_b (f : Int → Int) (p w : Int) : 0 ≤ kIfD f p w ∧ kIfD f p w ≤ 3 := by
  unfold kIfD
  (repeat' split) <;> omega
theorem kLea_b (m : Int) : 0 ≤ kLea m ∧ kLea m ≤ 3 := by
  unfold kLea
  (repeat' split) <;> omega
theorem kCal_b (f : Int → Int) (a : Int) (R : Bool × Int × Int × (Int → Int)) : 0 ≤ kCal f a R ∧ kCal f a R ≤ 3 := by
  unfold kCal
  (repeat' split) <;> omega
theorem cEnd_lo (tx : Int → Int) (ty i : Int) : i ≤ cEnd tx ty i ∧ i ≤ cStop tx ty i := by
  have r2 := cI2_rng tx ty i
  have r5 := cI5_rng tx ty (cI2 tx ty i + 1)
  unfold cEnd cStop
  refine ⟨by omega, ?_⟩
  (repeat' split) <;> omega
theorem tRun_lo (tx : Int → Int) (ty : Int) : ∀ (m : Nat) (n i : Int) (td : Int → Int), i ≤ (tRun tx ty m n i td).2.1
  | 0, n, i, td => Int.le_refl _
  | m + 1, n, i, td => by
    have h := cEnd_lo tx ty i
    rw [tRun]
    by_cases c : cOk tx ty i = true
    · rw [if_pos c]
      by_cases d : cMore tx ty i n = true
      · rw [if_pos d]
        have q := tRun_lo tx ty m (n + 1) (cEnd tx ty i + 1) (tPut tx ty i n td)
        omega
      · rw [if_neg d]
        exact h.1
    · rw [if_neg c]
      exact h.2
theorem sFirst_b {tx td : Int → Int} {ty : Int} (h : Rg td) (hty : 0 ≤ ty ∧ ty ≤ 60) : -2147483648 ≤ sFirst tx ty td ∧ sFirst tx ty td ≤ 60 := by
  have h1 := (tRun_rng tx ty 6 0 0 td h)
  unfold sFirst
  by_cases c : (tAll tx ty td).1 = false ∧ (tAll tx ty td).2.1 < ty
  · rw [if_pos c]
    have h2 := c.2
    have h3 : 0 ≤ (tAll tx ty td).2.1 := tRun_lo tx ty 6 0 0 td
    omega
  · rw [if_neg c]
    omega
end ZPW
