/-! what holds of the reference's state holds behind each call -/
section ZPW
theorem PW_mono {cap k ty : Int} {f past tx : Int → Int} (h : PW cap f k past ty tx) (hc : cap + 1 ≤ 100000) : PW (cap + 1) f k past ty tx := by
  obtain ⟨hw, hk, hp, hty, htx, hr, hrp, -⟩ := h
  exact ⟨hw.mono (by omega), hk, fun i i0 i1 => (hp i i0 i1).mono (by omega), hty, htx, hr, hrp, hc⟩
/-- a call that saves -/
theorem PW_op {cap k ty K : Int} {f f2 past tx : Int → Int} (h : PW cap f k past ty tx) (hc : cap + 1 ≤ 100000) (hw : K = 0 → WF f2 (cap + 1)) : PW (cap + 1) (if K = 0 then f2 else f) (if K = 0 then mKp k + 1 else k) (if K = 0 then mSav f past k else past) ty tx := by
  by_cases hk : K = 0
  · rw [if_pos hk, if_pos hk, if_pos hk]
    exact PW_sav h (hw hk) (by omega)
  · rw [if_neg hk, if_neg hk, if_neg hk]
    exact PW_mono h hc
theorem PW_ins {cap k ty p y : Int} {f past tx : Int → Int} (h : PW cap f k past ty tx) (hc : cap + 1 ≤ 100000) : PW (cap + 1) (if kIns f p y = 0 then mCome f p y else f) (if kIns f p y = 0 then mKp k + 1 else k) (if kIns f p y = 0 then mSav f past k else past) ty tx :=
  PW_op h hc (fun hk => by
    have hn := h.1.n
    have hq : (0 ≤ p ∧ p ≤ f 1) ∧ (1 ≤ y ∧ y ≤ 60) ∧ f 1 ≤ 29 := by
      unfold kIns at hk
      repeat (first | omega | split at hk)
    exact WF_come h.1 (by omega) hq.2.2 hq.1 hq.2.1)
theorem PW_mov {cap k ty p t : Int} {f past tx : Int → Int} (h : PW cap f k past ty tx) (hc : cap + 1 ≤ 100000) : PW (cap + 1) (if kMov f p t = 0 then mMove f p t else f) (if kMov f p t = 0 then mKp k + 1 else k) (if kMov f p t = 0 then mSav f past k else past) ty tx :=
  PW_op h hc (fun hk => by
    have hq : (0 ≤ p ∧ p < f 1) ∧ (0 ≤ t ∧ t < f 1) := by
      unfold kMov at hk
      repeat (first | omega | split at hk)
    exact (WF_move h.1 (by omega) hq.1 hq.2).mono (by omega))
theorem PW_drp {cap k ty p : Int} {f past tx : Int → Int} (h : PW cap f k past ty tx) (hc : cap + 1 ≤ 100000) : PW (cap + 1) (if kPl f p = 0 then mOut f p else f) (if kPl f p = 0 then mKp k + 1 else k) (if kPl f p = 0 then mSav f past k else past) ty tx :=
  PW_op h hc (fun hk => by
    have hq : 0 ≤ p ∧ p < f 1 := by
      unfold kPl at hk
      repeat (first | omega | split at hk)
    exact (WF_out h.1 hq).mono (by omega))
theorem PW_pgs {cap k ty p y : Int} {f past tx : Int → Int} (h : PW cap f k past ty tx) (hc : cap + 1 ≤ 100000) : PW (cap + 1) (if kPgs f p y = 0 then zu f (2 * p + 4) y else f) (if kPgs f p y = 0 then mKp k + 1 else k) (if kPgs f p y = 0 then mSav f past k else past) ty tx :=
  PW_op h hc (fun hk => by
    have hq : (0 ≤ p ∧ p < f 1) ∧ (1 ≤ y ∧ y ≤ 60) := by
      unfold kPgs at hk
      repeat (first | omega | split at hk)
    exact (WF_pages h.1 hq.1 hq.2).mono (by omega))
theorem PW_joi {cap k ty p : Int} {f past tx : Int → Int} (h : PW cap f k past ty tx) (hc : cap + 1 ≤ 100000) : PW (cap + 1) (if kJoi f p = 0 then mJoin f p else f) (if kJoi f p = 0 then mKp k + 1 else k) (if kJoi f p = 0 then mSav f past k else past) ty tx :=
  PW_op h hc (fun hk => by
    have hq : (0 ≤ p ∧ p < f 1 - 1) ∧ f (2 * p + 4) + f (2 * p + 6) ≤ 60 := by
      unfold kJoi at hk
      repeat (first | omega | split at hk)
    exact (WF_join h.1 (by omega) hq.1 hq.2).mono (by omega))
theorem PW_spl {cap k ty p y : Int} {f past tx : Int → Int} (h : PW cap f k past ty tx) (hc : cap + 1 ≤ 100000) : PW (cap + 1) (if kSpl f p y = 0 then mSplit f p y else f) (if kSpl f p y = 0 then mKp k + 1 else k) (if kSpl f p y = 0 then mSav f past k else past) ty tx :=
  PW_op h hc (fun hk => by
    have hn := h.1.n
    have hq : (0 ≤ p ∧ p < f 1) ∧ (1 ≤ y ∧ y < f (2 * p + 4)) ∧ f 1 ≤ 29 := by
      unfold kSpl at hk
      repeat (first | omega | split at hk)
    exact WF_split h.1 (by omega) hq.2.2 hq.1 hq.2.1)
theorem PW_cit {cap k ty a p y : Int} {f past tx : Int → Int} (h : PW cap f k past ty tx) (hc : cap + 1 ≤ 100000) : PW (cap + 1) (if kCit f a p y = 0 then mName f a p y else f) (if kCit f a p y = 0 then mKp k + 1 else k) (if kCit f a p y = 0 then mSav f past k else past) ty tx :=
  PW_op h hc (fun hk => by
    have hq : (0 ≤ a ∧ a < 12) ∧ (0 ≤ p ∧ p < f 1) ∧ (1 ≤ y ∧ y ≤ 60) ∧ f (32 * a + 65) ≠ 6 := by
      unfold kCit at hk
      repeat (first | omega | split at hk)
    have hpa := h.1.pa a hq.1.1 hq.1.2
    exact (WF_name h.1 (by omega) hq.1 hq.2.1 hq.2.2.1 (by omega)).mono (by omega))
theorem kPar_0 {a : Int} (hk : kPar a = 0) : 0 ≤ a ∧ a < 12 := by
  unfold kPar at hk
  repeat (first | omega | split at hk)
theorem PW_cln {cap k ty a : Int} {f past tx : Int → Int} {g : zG} {C : Nat → va_E} (h : PW cap f k past ty tx) (hI : IW g C f k past ty tx) (hc : cap + 1 ≤ 100000) : PW (cap + 1) (if kPar a = 0 then mClean f a else f) (if kPar a = 0 then mKp k + 1 else k) (if kPar a = 0 then mSav f past k else past) ty tx :=
  PW_op h hc (fun hk => by
    obtain ⟨-, ⟨num, pgs, cc, cn, cp, pn, pm, -, hR⟩, ⟨vb, vt, vf, lt, lo, -, hV⟩, -, -, -⟩ := hI
    exact (WF_clean hR hV h.1 (kPar_0 hk)).mono (by omega))
theorem PW_prt {cap k ty a : Int} {f past tx : Int → Int} (h : PW cap f k past ty tx) (hc : cap + 1 ≤ 100000) : PW (cap + 1) (if kPar a = 0 then mPrint f a else f) (if kPar a = 0 then mKp k + 1 else k) (if kPar a = 0 then mSav f past k else past) ty tx :=
  PW_op h hc (fun hk => (WF_print h.1 (kPar_0 hk)).mono (by omega))
theorem PW_set {cap k ty y : Int} {f past tx : Int → Int} (h : PW cap f k past ty tx) (hc : cap + 1 ≤ 100000) : PW (cap + 1) (if kSet y = 0 then zu f 0 y else f) (if kSet y = 0 then mKp k + 1 else k) (if kSet y = 0 then mSav f past k else past) ty tx :=
  PW_op h hc (fun hk => by
    have hq : 10 ≤ y ∧ y ≤ 200 := by
      unfold kSet at hk
      repeat (first | omega | split at hk)
    exact (WF_set h.1 hq).mono (by omega))
theorem PW_und {cap k ty : Int} {f past tx : Int → Int} (h : PW cap f k past ty tx) (hc : cap + 1 ≤ 100000) : PW (cap + 1) (if kUnd k = 0 then mPast past (k - 1) else f) (if kUnd k = 0 then k - 1 else k) past ty tx := by
  obtain ⟨hw, hk, hp, hty, htx, hr, hrp, -⟩ := PW_mono h hc
  by_cases c : kUnd k = 0
  · have hq : k ≠ 0 := by
      unfold kUnd at c
      split at c <;> omega
    rw [if_pos c, if_pos c]
    exact ⟨hp _ (by omega) (by omega), by omega, fun i i0 i1 => hp i i0 (by omega), hty, htx, hr, hrp, hc⟩
  · rw [if_neg c, if_neg c]
    exact ⟨hw, hk, hp, hty, htx, hr, hrp, hc⟩
theorem kIns_b (f : Int → Int) (p y : Int) : 0 ≤ kIns f p y ∧ kIns f p y ≤ 3 := by
  unfold kIns
  (repeat' split) <;> omega
theorem kMov_b (f : Int → Int) (p t : Int) : 0 ≤ kMov f p t ∧ kMov f p t ≤ 3 := by
  unfold kMov
  (repeat' split) <;> omega
theorem kPl_b (f : Int → Int) (p : Int) : 0 ≤ kPl f p ∧ kPl f p ≤ 3 := by
  unfold kPl
  (repeat' split) <;> omega
theorem kPgs_b (f : Int → Int) (p y : Int) : 0 ≤ kPgs f p y ∧ kPgs f p y ≤ 3 := by
  unfold kPgs
  (repeat' split) <;> omega
theorem kJoi_b (f : Int → Int) (p : Int) : 0 ≤ kJoi f p ∧ kJoi f p ≤ 3 := by
  unfold kJoi
  (repeat' split) <;> omega
theorem kSpl_b (f : Int → Int) (p y : Int) : 0 ≤ kSpl f p y ∧ kSpl f p y ≤ 3 := by
  unfold kSpl
  (repeat' split) <;> omega
theorem kCit_b (f : Int → Int) (a p y : Int) : 0 ≤ kCit f a p y ∧ kCit f a p y ≤ 3 := by
  unfold kCit
  (repeat' split) <;> omega
theorem kPar_b (a : Int) : 0 ≤ kPar a ∧ kPar a ≤ 3 := by
  unfold kPar
  (repeat' split) <;> omega
theorem kSet_b (y : Int) : 0 ≤ kSet y ∧ kSet y ≤ 3 := by
  unfold kSet
  (repeat' split) <;> omega
theorem kUnd_b (k : Int) : 0 ≤ kUnd k ∧ kUnd k ≤ 3 := by
  unfold kUnd
  (repeat' split) <;> omega
theorem kExh_b (p w : Int) : 0 ≤ kExh p w ∧ kExh p w ≤ 3 := by
  unfold kExh
  (repeat' split) <;> omega
theorem kCtn_b (a b w : Int) : 0 ≤ kCtn a b w ∧ kCtn a b w ≤ 3 := by
  unfold kCtn
  (repeat' split) <;> omega
theorem kPrg_b (a w : Int) : 0 ≤ kPrg a w ∧ kPrg a w ≤ 3 := by
  unfold kPrg
  (repeat' split) <;> omega
theorem kCnt_b (w : Int) : 0 ≤ kCnt w ∧ kCnt w ≤ 3 := by
  unfold kCnt
  (repeat' split) <;> omega
theorem kIfD_b (f : Int → Int) (p w : Int) : 0 ≤ kIfD f p w ∧ kIfD f p w ≤ 3 := by
  unfold kIfD
  (repeat' split) <;> omega
end ZPW
