/-! the class: its changing calls, in the reference's words -/
section ZIM
theorem mCome_012 (f : Int → Int) {p y : Int} (hp : 0 ≤ p) : mCome f p y 1 = f 1 + 1 ∧ mCome f p y 2 = f 2 + 1 ∧ mCome f p y 0 = f 0 := by
  refine ⟨?_, ?_, ?_⟩
  · simp only [mCome]
    rw [zu_ne _ _ (by omega), mPut_1]
  · simp only [mCome]
    rw [zu_eq]
  · simp only [mCome]
    rw [zu_ne _ _ (by omega), mPut_lo _ hp (by omega) (by omega)]
theorem mOut_012 (f : Int → Int) {p : Int} (hp : 0 ≤ p) : mOut f p 1 = f 1 - 1 ∧ mOut f p 2 = f 2 ∧ mOut f p 0 = f 0 := ⟨mOut_1 f p, mOut_lo f hp (by omega) (by omega), mOut_lo f hp (by omega) (by omega)⟩
theorem mMove_012 (f : Int → Int) {p t : Int} (hp : 0 ≤ p) (ht : 0 ≤ t) : mMove f p t 1 = f 1 ∧ mMove f p t 2 = f 2 ∧ mMove f p t 0 = f 0 := by
  have q := mOut_012 f hp
  unfold mMove
  refine ⟨?_, ?_, ?_⟩
  · rw [mPut_1, q.1]
    omega
  · rw [mPut_lo _ ht (by omega) (by omega), q.2.1]
  · rw [mPut_lo _ ht (by omega) (by omega), q.2.2]
theorem mJoin_012 (f : Int → Int) {p : Int} (hp : 0 ≤ p) : mJoin f p 1 = f 1 - 1 ∧ mJoin f p 2 = f 2 ∧ mJoin f p 0 = f 0 := by
  unfold mJoin
  have q := mOut_012 (mFol f (f (2 * p + 5)) (f (2 * p + 3)) 1 (f (2 * p + 4))) (p := p + 1) (by omega)
  refine ⟨?_, ?_, ?_⟩
  · rw [zu_ne _ _ (by omega), q.1, mFol_lo (by omega)]
  · rw [zu_ne _ _ (by omega), q.2.1, mFol_lo (by omega)]
  · rw [zu_ne _ _ (by omega), q.2.2, mFol_lo (by omega)]
theorem mSplit_012 (f : Int → Int) {p y : Int} (hp : 0 ≤ p) : mSplit f p y 1 = f 1 + 1 ∧ mSplit f p y 2 = f 2 + 1 ∧ mSplit f p y 0 = f 0 := by
  unfold mSplit
  have q := mCome_012 (mFol f (f (2 * p + 3)) (f 2) (y + 1) (-y)) (p := p + 1) (y := f (2 * p + 4) - y) (by omega)
  refine ⟨?_, ?_, ?_⟩
  · rw [zu_ne _ _ (by omega), q.1, mFol_lo (by omega)]
  · rw [zu_ne _ _ (by omega), q.2.1, mFol_lo (by omega)]
  · rw [zu_ne _ _ (by omega), q.2.2, mFol_lo (by omega)]
theorem mName_012 (f : Int → Int) {a p y : Int} (ha : 0 ≤ a) (hn : 0 ≤ f (32 * a + 65)) : mName f a p y 1 = f 1 ∧ mName f a p y 2 = f 2 ∧ mName f a p y 0 = f 0 := by
  simp only [mName]
  refine ⟨?_, ?_, ?_⟩ <;> rw [zu_ne _ _ (by omega), zu_ne _ _ (by omega), zu_ne _ _ (by omega)]
theorem zsum_sub {h1 h2 h3 : Int → Int} {n : Int} (hn : 0 ≤ n) (e : ∀ j, 0 ≤ j → j < n → h1 j + h2 j = h3 j) : zsum h1 n + zsum h2 n = zsum h3 n := by
  obtain ⟨m, rfl⟩ : ∃ m : Nat, n = (m : Int) := ⟨n.toNat, by omega⟩
  clear hn
  induction m with
  | zero => rfl
  | succ m ih =>
    have i := ih (fun j j0 j1 => e j j0 (by omega))
    have q := e m (by omega) (by omega)
    rw [show ((m + 1 : Nat) : Int) = (m : Int) + 1 by omega, zsum_1 _ (by omega), zsum_1 _ (by omega), zsum_1 _ (by omega)]
    omega
/-- an exhibit out: who names it is lost; the others are as they were -/
theorem sPl_out {f : Int → Int} {cap p x : Int} (hw : WF f cap) (hp : 0 ≤ p ∧ p < f 1) : sPl (mOut f p) x = if sPl f x = p then -1 else if p < sPl f x then sPl f x - 1 else sPl f x := by
  have hn := hw.n
  unfold sPl
  rw [mOut_1]
  have q (k : Int) (k0 : 0 ≤ k) (k1 : k < f 1 - 1) := (mOut_x f (p := p) k0 k1).1
  rcases zfind_spec (fun k => f (2 * k + 3)) x (n := f 1) hn.1 with ⟨s1, s2⟩ | ⟨s1, s2, s3, s4⟩
  · rw [s1, if_neg (by omega), if_neg (by omega)]
    refine zfind_no (fun j j0 j1 => ?_)
    show mOut f p (2 * j + 3) ≠ x
    rw [q j j0 j1]
    split
    · exact s2 (j + 1) (by omega) (by omega)
    · exact s2 j j0 (by omega)
  · generalize zfind (fun k => f (2 * k + 3)) x (f 1) = z at *
    have s3' : f (2 * z + 3) = x := s3
    by_cases c : z = p
    · rw [if_pos c]
      refine zfind_no (fun j j0 j1 => ?_)
      show mOut f p (2 * j + 3) ≠ x
      rw [q j j0 j1, ← s3', c]
      split
      · exact fun w => hw.inj p (j + 1) hp.1 (by omega) (by omega) w.symm
      · exact fun w => hw.inj j p j0 (by omega) (by omega) w
    · rw [if_neg c]
      by_cases d : p < z
      · rw [if_pos d]
        refine zfind_at (by omega) (by omega) (fun j j0 j1 => ?_) ?_
        · show mOut f p (2 * j + 3) ≠ x
          rw [q j j0 (by omega)]
          split
          · exact s4 (j + 1) (by omega) (by omega)
          · exact s4 j j0 (by omega)
        · show mOut f p (2 * (z - 1) + 3) = x
          rw [q _ (by omega) (by omega), if_pos (by omega), show z - 1 + 1 = z by omega]
          exact s3'
      · rw [if_neg d]
        refine zfind_at s1 (by omega) (fun j j0 j1 => ?_) ?_
        · show mOut f p (2 * j + 3) ≠ x
          rw [q j j0 (by omega), if_neg (by omega)]
          exact s4 j j0 j1
        · show mOut f p (2 * z + 3) = x
          rw [q _ (by omega) (by omega), if_neg (by omega)]
          exact s3'
theorem sLet_out {f : Int → Int} {cap p a b : Int} (hw : WF f cap) (hp : 0 ≤ p ∧ p < f 1) (ha : 0 ≤ a) (hb : 0 ≤ b) : sLet (mOut f p) a b = if sLet f a b = p then -1 else if p < sLet f a b then sLet f a b - 1 else sLet f a b := by
  have hn := hw.n
  unfold sLet
  rw [mOut_hi f (by omega) (by omega)]
  exact sPl_out hw hp
theorem sLost_out {f : Int → Int} {cap p a b : Int} (hw : WF f cap) (hp : 0 ≤ p ∧ p < f 1) (ha : 0 ≤ a) (hb : 0 ≤ b) : sLost (mOut f p) a b = (sLost f a b || decide (sLet f a b = p)) := by
  have hn := hw.n
  have r : -1 ≤ sLet f a b ∧ sLet f a b < f 1 := zfind_rng _ _ hn.1
  unfold sLost
  rw [sLet_out hw hp ha hb, mOut_hi f (j := 32 * a + 2 * b + 67) (by omega) (by omega), Bool.eq_iff_iff, Bool.or_eq_true, decide_eq_true_iff, decide_eq_true_iff, decide_eq_true_iff]
  by_cases c : sLet f a b = p
  · rw [if_pos c]
    exact ⟨fun _ => Or.inr c, fun _ => Or.inl rfl⟩
  · rw [if_neg c]
    by_cases d : p < sLet f a b
    · rw [if_pos d, (mOut_x f (p := p) (k := sLet f a b - 1) (by omega) (by omega)).2, if_pos (by omega), show sLet f a b - 1 + 1 = sLet f a b by omega]
      omega
    · rw [if_neg d]
      by_cases e : sLet f a b = -1
      · rw [e]
        omega
      · rw [(mOut_x f (p := p) (k := sLet f a b) (by omega) (by omega)).2, if_neg (by omega)]
        omega
theorem drop_lost {f num pgs cc cn cp pn pm lt lo vb vt vf : Int → Int} {cap p : Int} (hR : RS f num pgs cc cn cp pn pm) (hV : VR f vb vt vf lt lo) (hw : WF f cap) (hp : 0 ≤ p ∧ p < f 1) : iGo cc lt lo p = sAllLost (mOut f p) - sAllLost f := by
  have hn := hw.n
  have key : sAllLost f + iGo cc lt lo p = sAllLost (mOut f p) := by
    unfold sAllLost iGo
    refine zsum_sub (by omega) (fun a a0 a1 => ?_)
    have q := hw.pa a a0 a1
    unfold sLostN iGi
    rw [(hR.pa a a0 a1).1, mOut_hi f (by omega) (by omega)]
    refine zsum_sub q.1 (fun b b0 b1 => ?_)
    have v := hV.2.1 a b a0 a1 b0 b1
    show b2i (sLost f a b) + b2i (decide (lt (6 * a + b) = p ∧ lo (6 * a + b) = 0)) = b2i (sLost (mOut f p) a b)
    rw [sLost_out hw hp a0 b0, v.1, v.2]
    cases hs : sLost f a b with
    | true =>
      rw [b2i_0 (fun z => by have := z.2; rw [b2i_t] at this; omega)]
      rfl
    | false =>
      by_cases c : sLet f a b = p
      · rw [b2i_1 ⟨c, rfl⟩, decide_eq_true c]
        rfl
      · rw [b2i_0 (fun z => c z.1), decide_eq_false c]
        rfl
  omega
/-- the text alone changes -/
theorem IW_tx {g : zG} {C C' : Nat → va_E} {f past tx tx2 : Int → Int} {k ty ty2 : Int} (h : IW g C f k past ty tx) (hs : ∀ q, (q < 23 ∨ (27 ≤ q ∧ q < 94)) → C' q = C q) (hX : wX g C' ty2 tx2) : IW g C' f k past ty2 tx2 :=
  ⟨wB_cong h.1 (fun q hq => hs q (by omega)), wL_cong h.2.1 (fun q hq => hs q (by omega)), wV_cong h.2.2.1 (fun q hq => hs q (by omega)), wT_cong h.2.2.2.1 (fun q hq => hs q (by omega)), wH_cong h.2.2.2.2.1 (fun q hq => hs q (by omega)), hX⟩
/-- the trial alone changes -/
theorem IW_tr {g : zG} {C C' : Nat → va_E} {f past tx : Int → Int} {k ty : Int} (h : IW g C f k past ty tx) (hs : ∀ q, (q < 18 ∨ (21 ≤ q ∧ q < 94)) → C' q = C q) (hT : wT g C') : IW g C' f k past ty tx :=
  ⟨wB_cong h.1 (fun q hq => hs q (by omega)), wL_cong h.2.1 (fun q hq => hs q (by omega)), wV_cong h.2.2.1 (fun q hq => hs q (by omega)), hT, wH_cong h.2.2.2.2.1 (fun q hq => hs q (by omega)), wX_cong h.2.2.2.2.2 (fun q hq => hs q (by omega))⟩

set_option maxRecDepth 20000 in
theorem hin_X8_insert_X4 : ∀ w ∈ wsX40, w ∈ wsX8_insert := by decide +kernel
set_option maxRecDepth 20000 in
theorem hin_X8_insert_X8 : ∀ w ∈ wsX80, w ∈ wsX8_insert := by decide +kernel
set_option maxHeartbeats 4000000 in
set_option maxRecDepth 100000 in
theorem x_X8_insert (l : Launch) (g : zG) (C : Nat → va_E) (p0 : Int) (y : Int) (f : Int → Int) (past : Int → Int) (tx : Int → Int) (k : Int) (ty : Int) (cap : Int) (hI : IW g C f k past ty tx) (hP : PW cap f k past ty tx) (h_p0 : -2147483648 ≤ p0 ∧ p0 < 2147483648) (h_y : -2147483648 ≤ y ∧ y < 2147483648) (hk9 : kIns f p0 y ≠ 0) (hlt : l.stackTraces = false) : vx_Met l yX8_insert wsX8_insert ({ frames := 7, cells := 3, slots := 18, locals := 103 } : Room) (zPre g C [.ref (aD g 0), .int (iZ p0), .int (iZ y)]) (zQi g (fun z C' => False)) (zX g (fun E C' => IW g C' f k past ty tx ∧ zSame C C' ∧ ((E = "java/lang/IndexOutOfBoundsException" ∧ kIns f p0 y = 1) ∨ (E = "java/lang/IllegalArgumentException" ∧ kIns f p0 y = 2) ∨ (E = "java/lang/IllegalStateException" ∧ kIns f p0 y = 3)))) 3 18 (zA g) := by
  refine z_enterX RX8 rfl (by decide) rfl (Nat.le_of_ble_eq_true rfl) ?_
  intro p e s m args below meth c K harg hne
  refine z_sub (lv' := [(0, .ref (aD g 0)), (1, .int (iZ p0)), (2, .int (iZ y))]) [0, 1, 2] rfl ?_
  have hI0 := hI
  obtain ⟨hB, hL, hV, hT, hH, hX⟩ := hI
  obtain ⟨hMa, hSp⟩ := id hB
  obtain ⟨num, pgs, cc, cn, cp, pn, pm, ⟨hSt, hEx, hNum, hPgs, hCi, hCc, hCn, hCp, hPr, hPc, hPm⟩, hR⟩ := id hL
  obtain ⟨vb, vt, vf, lt, lo, ⟨hVw, hVb, hVt, hVf, hLe, hLo⟩, hVR⟩ := id hV
  obtain ⟨tc, np, tp, hTr, hTn, hTp, hnp⟩ := id hT
  obtain ⟨cur, stp, pl, px, hTx, hXc, hXl, hXp, hpx⟩ := id hX
  obtain ⟨old, hHi, hHs, hho, -, -⟩ := id hH
  obtain ⟨hw, hk, hpst, hty, htxr, hrtx, hrp, hcap⟩ := id hP
  have hn := hw.n
  have hnx := hw.nx
  have hbp := hw.bp
  refine z_aload_n 1 K dX8_insert_0 rfl rfl 0 rfl ?_
  refine z_get 4 K hin_X8_insert_X8 0 (by decide) hMa rfl 0 (by decide) (by decide +kernel : Cond.fieldLink RX8 12 "BriefBuilder" "state" "LBriefBuilder$State;" ∈ wsX8_insert) (fun _ h9 => h9) rfl dX8_insert_1 rfl ?_
  refine z_get 7 K hin_X8_insert_X4 1 (by decide) hSt rfl 0 (by decide) (by decide +kernel : Cond.fieldLink RX8 48 "BriefBuilder$State" "exhibits" "LBriefBuilder$Exhibits;" ∈ wsX8_insert) (fun _ h9 => h9) rfl dX8_insert_4 rfl ?_
  refine z_astore_n (lv' := [(3, .ref (aD g 2)), (0, .ref (aD g 0)), (1, .int (iZ p0)), (2, .int (iZ y))]) 8 K dX8_insert_7 rfl rfl (by decide) rfl ?_
  refine z_aload_n 9 K dX8_insert_8 rfl rfl 1 rfl ?_
  refine z_iload_n 10 K dX8_insert_9 rfl rfl 2 rfl ?_
  refine z_xVv (As := [.int (iZ p0)]) (rest := []) 13 K 0 (by decide) hMa rfl rfl (m_X8_checkGap l g _ p0 (f 1) (f 2) (f 0) hMa hSt hEx (by omega) (by omega) hlt) (cwV 1 K.1.2.2.2.2 gX8_insert_X8_checkGap rfl rfl rfl (by decide +kernel) ⟨Nat.le_of_ble_eq_true rfl, Nat.le_of_ble_eq_true rfl⟩) rfl (Nat.le_of_ble_eq_true rfl) dX8_insert_10 rfl ⟨Nat.le_of_ble_eq_true rfl, Nat.le_of_ble_eq_true rfl⟩ rfl (fun E9 C9 hx9 => ?_) (fun C_2 hp_10 => ?_)
  · obtain ⟨hE9, rfl, hx9⟩ := hx9
    exact z_out hne K (Nat.le_of_ble_eq_true rfl) (Nat.le_of_ble_eq_true rfl) ⟨hI0, zSame_rf _, Or.inl ⟨hE9, (by unfold kIns; repeat (first | omega | split))⟩⟩
  obtain ⟨hC_10, hc_10⟩ := hp_10
  refine z_C hC_10 ?_
  refine z_iload_n 14 K dX8_insert_13 rfl rfl 3 rfl ?_
  refine z_xSv (As := [.int (iZ y)]) (rest := []) 17 K (m_X8_checkPages l g _ y (by omega) hlt) (va_cwS 1 K.1.2.2.2.2 gX8_insert_X8_checkPages rfl rfl rfl (by decide +kernel) ⟨Nat.le_of_ble_eq_true rfl, Nat.le_of_ble_eq_true rfl⟩) rfl (Nat.le_of_ble_eq_true rfl) dX8_insert_14 rfl ⟨by simp only []; omega, by simp only []; omega⟩ rfl (fun E9 C9 hx9 => ?_) (fun C_4 hp_14 => ?_)
  · obtain ⟨hE9, rfl, hx9⟩ := hx9
    exact z_out hne K (Nat.le_of_ble_eq_true rfl) (Nat.le_of_ble_eq_true rfl) ⟨hI0, zSame_rf _, Or.inr (Or.inl ⟨hE9, (by unfold kIns; repeat (first | omega | split))⟩)⟩
  obtain ⟨hC_14, hc_14⟩ := hp_14
  refine z_C hC_14 ?_
  refine z_aload_n 18 K dX8_insert_17 rfl rfl 1 rfl ?_
  refine z_xVv (As := []) (rest := []) 21 K 0 (by decide) hMa rfl rfl (m_X8_checkRoomForExhibit l g _ (f 1) (f 2) (f 0) hMa hSt hEx (by omega) hlt) (cwV 0 K.1.2.2.2.2 gX8_insert_X8_checkRoomForExhibit rfl rfl rfl (by decide +kernel) ⟨Nat.le_of_ble_eq_true rfl, Nat.le_of_ble_eq_true rfl⟩) rfl (Nat.le_of_ble_eq_true rfl) dX8_insert_18 rfl ⟨by simp only []; omega, by simp only []; omega⟩ rfl (fun E9 C9 hx9 => ?_) (fun C_6 hp_18 => ?_)
  · obtain ⟨hE9, rfl, hx9⟩ := hx9
    exact z_out hne K (Nat.le_of_ble_eq_true rfl) (Nat.le_of_ble_eq_true rfl) ⟨hI0, zSame_rf _, Or.inr (Or.inr (⟨hE9, (by unfold kIns; repeat (first | omega | split))⟩))⟩
  obtain ⟨hC_18, hc_18⟩ := hp_18
  refine z_C hC_18 ?_
  exact absurd (by unfold kIns; repeat (first | omega | split)) hk9
set_option maxHeartbeats 4000000 in
set_option maxRecDepth 100000 in
theorem a_X8_insert (l : Launch) (g : zG) (C : Nat → va_E) (p0 : Int) (y : Int) (f : Int → Int) (past : Int → Int) (tx : Int → Int) (k : Int) (ty : Int) (cap : Int) (hI : IW g C f k past ty tx) (hP : PW cap f k past ty tx) (h_p0 : -2147483648 ≤ p0 ∧ p0 < 2147483648) (h_y : -2147483648 ≤ y ∧ y < 2147483648) (hk9 : kIns f p0 y = 0) : Met l yX8_insert wsX8_insert ({ frames := 4, cells := 0, slots := 0, locals := 103 } : Room) (zPre g C [.ref (aD g 0), .int (iZ p0), .int (iZ y)]) (zQi g (fun z C' => IW g C' (mCome f p0 y) (mKp k + 1) (mSav f past k) ty tx ∧ zSame C C' ∧ z = f 2)) 0 0 (zA g) := by
  refine z_enter RX8 rfl (by decide) rfl (Nat.le_of_ble_eq_true rfl) ?_
  intro p e s m args below meth c K harg
  refine z_sub (lv' := [(0, .ref (aD g 0)), (1, .int (iZ p0)), (2, .int (iZ y))]) [0, 1, 2] rfl ?_
  have hI0 := hI
  obtain ⟨hB, hL, hV, hT, hH, hX⟩ := hI
  obtain ⟨hMa, hSp⟩ := id hB
  obtain ⟨num, pgs, cc, cn, cp, pn, pm, ⟨hSt, hEx, hNum, hPgs, hCi, hCc, hCn, hCp, hPr, hPc, hPm⟩, hR⟩ := id hL
  obtain ⟨vb, vt, vf, lt, lo, ⟨hVw, hVb, hVt, hVf, hLe, hLo⟩, hVR⟩ := id hV
  obtain ⟨tc, np, tp, hTr, hTn, hTp, hnp⟩ := id hT
  obtain ⟨cur, stp, pl, px, hTx, hXc, hXl, hXp, hpx⟩ := id hX
  obtain ⟨old, hHi, hHs, hho, -, -⟩ := id hH
  obtain ⟨hw, hk, hpst, hty, htxr, hrtx, hrp, hcap⟩ := id hP
  have hn := hw.n
  have hnx := hw.nx
  have hbp := hw.bp
  have hq : (0 ≤ p0 ∧ p0 ≤ f 1) ∧ (1 ≤ y ∧ y ≤ 60) ∧ f 1 ≤ 29 := by
    unfold kIns at hk9
    repeat (first | omega | split at hk9)
  refine z_aload_n 1 K dX8_insert_0 rfl rfl 0 rfl ?_
  refine z_get 4 K hin_X8_insert_X8 0 (by decide) hMa rfl 0 (by decide) (by decide +kernel : Cond.fieldLink RX8 12 "BriefBuilder" "state" "LBriefBuilder$State;" ∈ wsX8_insert) (fun _ h9 => h9) rfl dX8_insert_1 rfl ?_
  refine z_get 7 K hin_X8_insert_X4 1 (by decide) hSt rfl 0 (by decide) (by decide +kernel : Cond.fieldLink RX8 48 "BriefBuilder$State" "exhibits" "LBriefBuilder$Exhibits;" ∈ wsX8_insert) (fun _ h9 => h9) rfl dX8_insert_4 rfl ?_
  refine z_astore_n (lv' := [(3, .ref (aD g 2)), (0, .ref (aD g 0)), (1, .int (iZ p0)), (2, .int (iZ y))]) 8 K dX8_insert_7 rfl rfl (by decide) rfl ?_
  refine z_aload_n 9 K dX8_insert_8 rfl rfl 1 rfl ?_
  refine z_iload_n 10 K dX8_insert_9 rfl rfl 2 rfl ?_
  refine z_vVv (As := [.int (iZ p0)]) (rest := []) 13 K 0 (by decide) hMa rfl rfl (n_X8_checkGap l g _ p0 (f 1) (f 2) (f 0) hMa hSt hEx (by omega) (by omega) (by omega)) (cwV 1 K.1.2.2.2.2 gX8_insert_X8_checkGap rfl rfl rfl (by decide +kernel) ⟨Nat.le_of_ble_eq_true rfl, Nat.le_of_ble_eq_true rfl⟩) rfl (Nat.le_of_ble_eq_true rfl) dX8_insert_10 rfl ⟨Nat.le_of_ble_eq_true rfl, Nat.le_of_ble_eq_true rfl⟩ rfl (fun C_2 hp_10 => ?_)
  refine z_C hp_10 ?_
  refine z_iload_n 14 K dX8_insert_13 rfl rfl 3 rfl ?_
  refine z_vSv (As := [.int (iZ y)]) (rest := []) 17 K (n_X8_checkPages l g _ y (by omega) (by omega)) (va_cwS 1 K.1.2.2.2.2 gX8_insert_X8_checkPages rfl rfl rfl (by decide +kernel) ⟨Nat.le_of_ble_eq_true rfl, Nat.le_of_ble_eq_true rfl⟩) rfl (Nat.le_of_ble_eq_true rfl) dX8_insert_14 rfl ⟨Nat.le_of_ble_eq_true rfl, Nat.le_of_ble_eq_true rfl⟩ rfl (fun C_4 hp_14 => ?_)
  refine z_C hp_14 ?_
  refine z_aload_n 18 K dX8_insert_17 rfl rfl 1 rfl ?_
  refine z_vVv (As := []) (rest := []) 21 K 0 (by decide) hMa rfl rfl (n_X8_checkRoomForExhibit l g _ (f 1) (f 2) (f 0) hMa hSt hEx (by omega) (by omega)) (cwV 0 K.1.2.2.2.2 gX8_insert_X8_checkRoomForExhibit rfl rfl rfl (by decide +kernel) ⟨Nat.le_of_ble_eq_true rfl, Nat.le_of_ble_eq_true rfl⟩) rfl (Nat.le_of_ble_eq_true rfl) dX8_insert_18 rfl ⟨Nat.le_of_ble_eq_true rfl, Nat.le_of_ble_eq_true rfl⟩ rfl (fun C_6 hp_18 => ?_)
  refine z_C hp_18 ?_
  refine z_aload_n 22 K dX8_insert_21 rfl rfl 1 rfl ?_
  refine z_get 25 K hin_X8_insert_X8 0 (by decide) hMa rfl 3 (by decide) (by decide +kernel : Cond.fieldLink RX8 33 "BriefBuilder" "history" "LBriefBuilder$History;" ∈ wsX8_insert) (fun _ h9 => h9) rfl dX8_insert_22 rfl ?_
  refine z_aload_n 26 K dX8_insert_25 rfl rfl 1 rfl ?_
  refine z_get 29 K hin_X8_insert_X8 0 (by decide) hMa rfl 0 (by decide) (by decide +kernel : Cond.fieldLink RX8 12 "BriefBuilder" "state" "LBriefBuilder$State;" ∈ wsX8_insert) (fun _ h9 => h9) rfl dX8_insert_26 rfl ?_
  refine z_vVv (As := [.ref (aD g 1)]) (rest := []) 32 K 21 (by decide) hHi rfl rfl (s_X2_save l g _ f past k cap hH hL hk hw hpst) (cwV 1 K.1.2.2.2.2 gX8_insert_X2_save rfl rfl rfl (by decide +kernel) ⟨Nat.le_of_ble_eq_true rfl, Nat.le_of_ble_eq_true rfl⟩) rfl (Nat.le_of_ble_eq_true rfl) dX8_insert_29 rfl ⟨Nat.le_of_ble_eq_true rfl, Nat.le_of_ble_eq_true rfl⟩ rfl (fun C_8 hp_29 => ?_)
  obtain ⟨hHn_29, hsm_29⟩ := hp_29
  have hf_29_0 : C_8 0 = .inr (8, [.ref (aD g 1), .ref (aD g 12), .ref (aD g 18), .ref (aD g 21), .ref (aD g 23), .ref (aD g 27)]) := (hsm_29 0 (by omega)).trans hMa
  have hf_29_27 : C_8 27 = eI g 30 (fun k => k) := (hsm_29 27 (by omega)).trans hSp
  have hf_29_1 : C_8 1 = .inr (4, [.ref (aD g 2), .ref (aD g 5), .ref (aD g 9)]) := (hsm_29 1 (by omega)).trans hSt
  have hf_29_2 : C_8 2 = .inr (1, [.ref (aD g 3), .ref (aD g 4), .int (iZ (f 1)), .int (iZ (f 2)), .int (iZ (f 0))]) := (hsm_29 2 (by omega)).trans hEx
  have hf_29_3 : C_8 3 = eI g 30 num := (hsm_29 3 (by omega)).trans hNum
  have hf_29_4 : C_8 4 = eI g 30 pgs := (hsm_29 4 (by omega)).trans hPgs
  have hf_29_5 : C_8 5 = .inr (0, [.ref (aD g 6), .ref (aD g 7), .ref (aD g 8)]) := (hsm_29 5 (by omega)).trans hCi
  have hf_29_6 : C_8 6 = eI g 12 cc := (hsm_29 6 (by omega)).trans hCc
  have hf_29_7 : C_8 7 = eI g 72 cn := (hsm_29 7 (by omega)).trans hCn
  have hf_29_8 : C_8 8 = eI g 72 cp := (hsm_29 8 (by omega)).trans hCp
  have hf_29_9 : C_8 9 = .inr (3, [.ref (aD g 10), .ref (aD g 11)]) := (hsm_29 9 (by omega)).trans hPr
  have hf_29_10 : C_8 10 = eI g 12 pn := (hsm_29 10 (by omega)).trans hPc
  have hf_29_11 : C_8 11 = eI g 72 pm := (hsm_29 11 (by omega)).trans hPm
  have hf_29_12 : C_8 12 = .inr (7, [.ref (aD g 13), .ref (aD g 14), .ref (aD g 15), .ref (aD g 16), .ref (aD g 17), .int (iZ (sBds f))]) := (hsm_29 12 (by omega)).trans hVw
  have hf_29_13 : C_8 13 = eI g 30 vb := (hsm_29 13 (by omega)).trans hVb
  have hf_29_14 : C_8 14 = eI g 30 vt := (hsm_29 14 (by omega)).trans hVt
  have hf_29_15 : C_8 15 = eI g 30 vf := (hsm_29 15 (by omega)).trans hVf
  have hf_29_16 : C_8 16 = eI g 72 lt := (hsm_29 16 (by omega)).trans hLe
  have hf_29_17 : C_8 17 = eZ g 72 lo := (hsm_29 17 (by omega)).trans hLo
  have hf_29_18 : C_8 18 = .inr (6, [.ref (aD g 19), .ref (aD g 20), .int (iZ tc)]) := (hsm_29 18 (by omega)).trans hTr
  have hf_29_19 : C_8 19 = eI g 30 np := (hsm_29 19 (by omega)).trans hTn
  have hf_29_20 : C_8 20 = eI g 31 tp := (hsm_29 20 (by omega)).trans hTp
  have hf_29_22 : C_8 22 = eS g 6 (fun k => some (aD g (28 + 11 * k))) := (hsm_29 22 (by omega)).trans hHs
  have hf_29_23 : C_8 23 = .inr (5, [.ref (aD g 24), .int (iZ ty), .ref (aD g 25), .ref (aD g 26), .int (iZ cur), .int (iZ stp)]) := (hsm_29 23 (by omega)).trans hTx
  have hf_29_24 : C_8 24 = eI g 60 tx := (hsm_29 24 (by omega)).trans hXc
  have hf_29_25 : C_8 25 = eI g 6 pl := (hsm_29 25 (by omega)).trans hXl
  have hf_29_26 : C_8 26 = eI g 6 px := (hsm_29 26 (by omega)).trans hXp
  have hB2 := wB_cong hB (fun q hq => hsm_29 q (by omega))
  have hT2 := wT_cong hT (fun q hq => hsm_29 q (by omega))
  have hX2 := wX_cong hX (fun q hq => hsm_29 q (by omega))
  refine z_aload_n 33 K dX8_insert_32 rfl rfl 0 rfl ?_
  refine z_iload_n 34 K dX8_insert_33 rfl rfl 2 rfl ?_
  refine z_iload_n 35 K dX8_insert_34 rfl rfl 3 rfl ?_
  refine z_vVi (As := [.int (iZ p0), .int (iZ y)]) (rest := []) 38 K 2 (by decide) hf_29_2 rfl rfl (m_X1_putNew l g _ p0 y (f 1) (f 2) (f 0) num pgs hf_29_2 hf_29_3 hf_29_4 (by omega) (by omega)) (cwV 2 K.1.2.2.2.2 gX8_insert_X1_putNew rfl rfl rfl (by decide +kernel) ⟨Nat.le_of_ble_eq_true rfl, Nat.le_of_ble_eq_true rfl⟩) rfl (Nat.le_of_ble_eq_true rfl) dX8_insert_35 rfl ⟨Nat.le_of_ble_eq_true rfl, Nat.le_of_ble_eq_true rfl⟩ rfl (fun z_9 C_10 hp_35 => ?_)
  refine z_C hp_35.1 ?_
  refine z_top (f 2) hp_35.2 ?_
  refine z_istore (lv' := [(4, .int (iZ (f 2))), (3, .ref (aD g 2)), (0, .ref (aD g 0)), (1, .int (iZ p0)), (2, .int (iZ y))]) 40 K dX8_insert_38 rfl (by decide) rfl ?_
  refine z_aload_n 41 K dX8_insert_40 rfl rfl 2 rfl ?_
  refine z_get 44 K hin_X8_insert_X8 0 (by decide) ((va_up_ne _ _ (by decide)).trans ((va_up_ne _ _ (by decide)).trans ((va_up_ne _ _ (by decide)).trans hf_29_0))) rfl 1 (by decide) (by decide +kernel : Cond.fieldLink RX8 19 "BriefBuilder" "view" "LBriefBuilder$View;" ∈ wsX8_insert) (fun _ h9 => h9) rfl dX8_insert_41 rfl ?_
  refine z_aload_n 45 K dX8_insert_44 rfl rfl 2 rfl ?_
  refine z_get 48 K hin_X8_insert_X8 0 (by decide) ((va_up_ne _ _ (by decide)).trans ((va_up_ne _ _ (by decide)).trans ((va_up_ne _ _ (by decide)).trans hf_29_0))) rfl 0 (by decide) (by decide +kernel : Cond.fieldLink RX8 12 "BriefBuilder" "state" "LBriefBuilder$State;" ∈ wsX8_insert) (fun _ h9 => h9) rfl dX8_insert_45 rfl ?_
  have hw2 : WF (mCome f p0 y) (cap + 1) := WF_come hw (by omega) (by omega) (by omega) (by omega)
  have hR2 : RS (mCome f p0 y) (zIn num (f 1) p0 (f 2)) (zIn pgs (f 1) p0 y) cc cn cp pn pm := RS_come hR (by omega) (by omega) (by omega)
  have e1 : f 1 + 1 = (mCome f p0 y) 1 := (mCome_012 f (by omega)).1.symm
  have e2 : f 2 + 1 = (mCome f p0 y) 2 := (mCome_012 f (by omega)).2.1.symm
  have e3 : f 0 = (mCome f p0 y) 0 := (mCome_012 f (by omega)).2.2.symm
  have hpg2 : ∀ j, 0 ≤ j → j < f 1 + 1 → 0 ≤ (zIn pgs (f 1) p0 y) j ∧ (zIn pgs (f 1) p0 y) j ≤ 60 := by
    intro j j0 j1
    rw [e1] at j1
    exact hR2.hpg hw2 j j0 j1
  have hbp2 := hw2.bp
  have hn2 := hw2.n
  refine z_vVv (As := [.ref (aD g 1)]) (rest := []) 51 K 12 (by decide) ((va_up_ne _ _ (by decide)).trans ((va_up_ne _ _ (by decide)).trans ((va_up_ne _ _ (by decide)).trans hf_29_12))) rfl rfl (m_X7_follow l g _ (sBds f) vb vt vf lt lo (f 1 + 1) (f 2 + 1) (f 0) (zIn num (f 1) p0 (f 2)) (zIn pgs (f 1) p0 y) cc cn cp ((va_up_ne _ _ (by decide)).trans ((va_up_ne _ _ (by decide)).trans ((va_up_ne _ _ (by decide)).trans hf_29_12))) ((va_up_ne _ _ (by decide)).trans ((va_up_ne _ _ (by decide)).trans ((va_up_ne _ _ (by decide)).trans hf_29_13))) ((va_up_ne _ _ (by decide)).trans ((va_up_ne _ _ (by decide)).trans ((va_up_ne _ _ (by decide)).trans hf_29_14))) ((va_up_ne _ _ (by decide)).trans ((va_up_ne _ _ (by decide)).trans ((va_up_ne _ _ (by decide)).trans hf_29_15))) ((va_up_ne _ _ (by decide)).trans ((va_up_ne _ _ (by decide)).trans ((va_up_ne _ _ (by decide)).trans hf_29_16))) ((va_up_ne _ _ (by decide)).trans ((va_up_ne _ _ (by decide)).trans ((va_up_ne _ _ (by decide)).trans hf_29_17))) ((va_up_ne _ _ (by decide)).trans ((va_up_ne _ _ (by decide)).trans ((va_up_ne _ _ (by decide)).trans hf_29_1))) (va_up_eq _ 2 _) ((va_up_ne _ _ (by decide)).trans ((va_up_ne _ _ (by decide)).trans (va_up_eq _ 3 _))) ((va_up_ne _ _ (by decide)).trans (va_up_eq _ 4 _)) ((va_up_ne _ _ (by decide)).trans ((va_up_ne _ _ (by decide)).trans ((va_up_ne _ _ (by decide)).trans hf_29_5))) ((va_up_ne _ _ (by decide)).trans ((va_up_ne _ _ (by decide)).trans ((va_up_ne _ _ (by decide)).trans hf_29_6))) ((va_up_ne _ _ (by decide)).trans ((va_up_ne _ _ (by decide)).trans ((va_up_ne _ _ (by decide)).trans hf_29_7))) ((va_up_ne _ _ (by decide)).trans ((va_up_ne _ _ (by decide)).trans ((va_up_ne _ _ (by decide)).trans hf_29_8))) (by omega) (by omega) hpg2 (hR2.hcc hw2) hVR.2.2.1 hVR.2.2.2 hR2.r1 hR2.r2 (hR2.hcp hw2)) (cwV 1 K.1.2.2.2.2 gX8_insert_X7_follow rfl rfl rfl (by decide +kernel) ⟨Nat.le_of_ble_eq_true rfl, Nat.le_of_ble_eq_true rfl⟩) rfl (Nat.le_of_ble_eq_true rfl) dX8_insert_48 rfl ⟨Nat.le_of_ble_eq_true rfl, Nat.le_of_ble_eq_true rfl⟩ rfl (fun C_12 hp_48 => ?_)
  obtain ⟨w13_13, w14_14, w15_15, w16_16, w17_17, hC_48, hvf_48, hcf_48, hl16_48, hl17_48⟩ := hp_48
  refine z_C hC_48 ?_
  refine z_iload 53 K dX8_insert_51 rfl 0 rfl ?_
  exact z_iret K rfl dX8_insert_53 ⟨IW_mk hB2 hT2 hX2 hHn_29 (fun q hq => ((va_up_ne _ _ (by omega)).trans ((va_up_ne _ _ (by omega)).trans ((va_up_ne _ _ (by omega)).trans ((va_up_ne _ _ (by omega)).trans ((va_up_ne _ _ (by omega)).trans ((va_up_ne _ _ (by omega)).trans ((va_up_ne _ _ (by omega)).trans ((va_up_ne _ _ (by omega)).trans ((va_up_ne _ _ (by omega)).trans rfl)))))))))) ⟨((va_up_ne _ _ (by decide)).trans ((va_up_ne _ _ (by decide)).trans ((va_up_ne _ _ (by decide)).trans ((va_up_ne _ _ (by decide)).trans ((va_up_ne _ _ (by decide)).trans ((va_up_ne _ _ (by decide)).trans ((va_up_ne _ _ (by decide)).trans ((va_up_ne _ _ (by decide)).trans ((va_up_ne _ _ (by decide)).trans hf_29_1))))))))), ((va_up_ne _ _ (by decide)).trans ((va_up_ne _ _ (by decide)).trans ((va_up_ne _ _ (by decide)).trans ((va_up_ne _ _ (by decide)).trans ((va_up_ne _ _ (by decide)).trans ((va_up_ne _ _ (by decide)).trans (va_up_eq _ 2 _))))))), ((va_up_ne _ _ (by decide)).trans ((va_up_ne _ _ (by decide)).trans ((va_up_ne _ _ (by decide)).trans ((va_up_ne _ _ (by decide)).trans ((va_up_ne _ _ (by decide)).trans ((va_up_ne _ _ (by decide)).trans ((va_up_ne _ _ (by decide)).trans ((va_up_ne _ _ (by decide)).trans (va_up_eq _ 3 _))))))))), ((va_up_ne _ _ (by decide)).trans ((va_up_ne _ _ (by decide)).trans ((va_up_ne _ _ (by decide)).trans ((va_up_ne _ _ (by decide)).trans ((va_up_ne _ _ (by decide)).trans ((va_up_ne _ _ (by decide)).trans ((va_up_ne _ _ (by decide)).trans (va_up_eq _ 4 _)))))))), ((va_up_ne _ _ (by decide)).trans ((va_up_ne _ _ (by decide)).trans ((va_up_ne _ _ (by decide)).trans ((va_up_ne _ _ (by decide)).trans ((va_up_ne _ _ (by decide)).trans ((va_up_ne _ _ (by decide)).trans ((va_up_ne _ _ (by decide)).trans ((va_up_ne _ _ (by decide)).trans ((va_up_ne _ _ (by decide)).trans hf_29_5))))))))), ((va_up_ne _ _ (by decide)).trans ((va_up_ne _ _ (by decide)).trans ((va_up_ne _ _ (by decide)).trans ((va_up_ne _ _ (by decide)).trans ((va_up_ne _ _ (by decide)).trans ((va_up_ne _ _ (by decide)).trans ((va_up_ne _ _ (by decide)).trans ((va_up_ne _ _ (by decide)).trans ((va_up_ne _ _ (by decide)).trans hf_29_6))))))))), ((va_up_ne _ _ (by decide)).trans ((va_up_ne _ _ (by decide)).trans ((va_up_ne _ _ (by decide)).trans ((va_up_ne _ _ (by decide)).trans ((va_up_ne _ _ (by decide)).trans ((va_up_ne _ _ (by decide)).trans ((va_up_ne _ _ (by decide)).trans ((va_up_ne _ _ (by decide)).trans ((va_up_ne _ _ (by decide)).trans hf_29_7))))))))), ((va_up_ne _ _ (by decide)).trans ((va_up_ne _ _ (by decide)).trans ((va_up_ne _ _ (by decide)).trans ((va_up_ne _ _ (by decide)).trans ((va_up_ne _ _ (by decide)).trans ((va_up_ne _ _ (by decide)).trans ((va_up_ne _ _ (by decide)).trans ((va_up_ne _ _ (by decide)).trans ((va_up_ne _ _ (by decide)).trans hf_29_8))))))))), ((va_up_ne _ _ (by decide)).trans ((va_up_ne _ _ (by decide)).trans ((va_up_ne _ _ (by decide)).trans ((va_up_ne _ _ (by decide)).trans ((va_up_ne _ _ (by decide)).trans ((va_up_ne _ _ (by decide)).trans ((va_up_ne _ _ (by decide)).trans ((va_up_ne _ _ (by decide)).trans ((va_up_ne _ _ (by decide)).trans hf_29_9))))))))), ((va_up_ne _ _ (by decide)).trans ((va_up_ne _ _ (by decide)).trans ((va_up_ne _ _ (by decide)).trans ((va_up_ne _ _ (by decide)).trans ((va_up_ne _ _ (by decide)).trans ((va_up_ne _ _ (by decide)).trans ((va_up_ne _ _ (by decide)).trans ((va_up_ne _ _ (by decide)).trans ((va_up_ne _ _ (by decide)).trans hf_29_10))))))))), ((va_up_ne _ _ (by decide)).trans ((va_up_ne _ _ (by decide)).trans ((va_up_ne _ _ (by decide)).trans ((va_up_ne _ _ (by decide)).trans ((va_up_ne _ _ (by decide)).trans ((va_up_ne _ _ (by decide)).trans ((va_up_ne _ _ (by decide)).trans ((va_up_ne _ _ (by decide)).trans ((va_up_ne _ _ (by decide)).trans hf_29_11)))))))))⟩ e1 e2 e3 hR2 hw2 ⟨((va_up_ne _ _ (by decide)).trans ((va_up_ne _ _ (by decide)).trans (va_up_eq _ 12 _))), ((va_up_ne _ _ (by decide)).trans ((va_up_ne _ _ (by decide)).trans ((va_up_ne _ _ (by decide)).trans ((va_up_ne _ _ (by decide)).trans ((va_up_ne _ _ (by decide)).trans (va_up_eq _ 13 _)))))), ((va_up_ne _ _ (by decide)).trans ((va_up_ne _ _ (by decide)).trans ((va_up_ne _ _ (by decide)).trans ((va_up_ne _ _ (by decide)).trans (va_up_eq _ 14 _))))), ((va_up_ne _ _ (by decide)).trans ((va_up_ne _ _ (by decide)).trans ((va_up_ne _ _ (by decide)).trans (va_up_eq _ 15 _)))), ((va_up_ne _ _ (by decide)).trans (va_up_eq _ 16 _)), (va_up_eq _ 17 _)⟩ rfl hvf_48 hcf_48 hl16_48 hl17_48, fun q hq => (((va_up_ne _ _ (by omega)).trans ((va_up_ne _ _ (by omega)).trans ((va_up_ne _ _ (by omega)).trans ((va_up_ne _ _ (by omega)).trans ((va_up_ne _ _ (by omega)).trans ((va_up_ne _ _ (by omega)).trans ((va_up_ne _ _ (by omega)).trans ((va_up_ne _ _ (by omega)).trans ((va_up_ne _ _ (by omega)).trans rfl)))))))))).trans (hsm_29 q (by omega)), rfl⟩
set_option maxRecDepth 20000 in
theorem hin_X8_move_X4 : ∀ w ∈ wsX40, w ∈ wsX8_move := by decide +kernel
set_option maxRecDepth 20000 in
theorem hin_X8_move_X8 : ∀ w ∈ wsX80, w ∈ wsX8_move := by decide +kernel
set_option maxHeartbeats 4000000 in
set_option maxRecDepth 100000 in
theorem x_X8_move (l : Launch) (g : zG) (C : Nat → va_E) (p0 : Int) (t0 : Int) (f : Int → Int) (past : Int → Int) (tx : Int → Int) (k : Int) (ty : Int) (cap : Int) (hI : IW g C f k past ty tx) (hP : PW cap f k past ty tx) (h_p0 : -2147483648 ≤ p0 ∧ p0 < 2147483648) (h_t0 : -2147483648 ≤ t0 ∧ t0 < 2147483648) (hk9 : kMov f p0 t0 ≠ 0) (hlt : l.stackTraces = false) : vx_Met l yX8_move wsX8_move ({ frames := 7, cells := 2, slots := 12, locals := 103 } : Room) (zPre g C [.ref (aD g 0), .int (iZ p0), .int (iZ t0)]) (zQi g (fun z C' => False)) (zX g (fun E C' => IW g C' f k past ty tx ∧ zSame C C' ∧ ((E = "java/lang/IndexOutOfBoundsException" ∧ kMov f p0 t0 = 1)))) 2 12 (zA g) := by
  refine z_enterX RX8 rfl (by decide) rfl (Nat.le_of_ble_eq_true rfl) ?_
  intro p e s m args below meth c K harg hne
  refine z_sub (lv' := [(0, .ref (aD g 0)), (1, .int (iZ p0)), (2, .int (iZ t0))]) [0, 1, 2] rfl ?_
  have hI0 := hI
  obtain ⟨hB, hL, hV, hT, hH, hX⟩ := hI
  obtain ⟨hMa, hSp⟩ := id hB
  obtain ⟨num, pgs, cc, cn, cp, pn, pm, ⟨hSt, hEx, hNum, hPgs, hCi, hCc, hCn, hCp, hPr, hPc, hPm⟩, hR⟩ := id hL
  obtain ⟨vb, vt, vf, lt, lo, ⟨hVw, hVb, hVt, hVf, hLe, hLo⟩, hVR⟩ := id hV
  obtain ⟨tc, np, tp, hTr, hTn, hTp, hnp⟩ := id hT
  obtain ⟨cur, stp, pl, px, hTx, hXc, hXl, hXp, hpx⟩ := id hX
  obtain ⟨old, hHi, hHs, hho, -, -⟩ := id hH
  obtain ⟨hw, hk, hpst, hty, htxr, hrtx, hrp, hcap⟩ := id hP
  have hn := hw.n
  have hnx := hw.nx
  have hbp := hw.bp
  refine z_aload_n 1 K dX8_move_0 rfl rfl 0 rfl ?_
  refine z_get 4 K hin_X8_move_X8 0 (by decide) hMa rfl 0 (by decide) (by decide +kernel : Cond.fieldLink RX8 12 "BriefBuilder" "state" "LBriefBuilder$State;" ∈ wsX8_move) (fun _ h9 => h9) rfl dX8_move_1 rfl ?_
  refine z_get 7 K hin_X8_move_X4 1 (by decide) hSt rfl 0 (by decide) (by decide +kernel : Cond.fieldLink RX8 48 "BriefBuilder$State" "exhibits" "LBriefBuilder$Exhibits;" ∈ wsX8_move) (fun _ h9 => h9) rfl dX8_move_4 rfl ?_
  refine z_astore_n (lv' := [(3, .ref (aD g 2)), (0, .ref (aD g 0)), (1, .int (iZ p0)), (2, .int (iZ t0))]) 8 K dX8_move_7 rfl rfl (by decide) rfl ?_
  refine z_aload_n 9 K dX8_move_8 rfl rfl 1 rfl ?_
  refine z_iload_n 10 K dX8_move_9 rfl rfl 2 rfl ?_
  refine z_xVv (As := [.int (iZ p0)]) (rest := []) 13 K 0 (by decide) hMa rfl rfl (m_X8_checkPlace l g _ p0 (f 1) (f 2) (f 0) hMa hSt hEx (by omega) (by omega) hlt) (cwV 1 K.1.2.2.2.2 gX8_move_X8_checkPlace rfl rfl rfl (by decide +kernel) ⟨Nat.le_of_ble_eq_true rfl, Nat.le_of_ble_eq_true rfl⟩) rfl (Nat.le_of_ble_eq_true rfl) dX8_move_10 rfl ⟨Nat.le_of_ble_eq_true rfl, Nat.le_of_ble_eq_true rfl⟩ rfl (fun E9 C9 hx9 => ?_) (fun C_2 hp_10 => ?_)
  · obtain ⟨hE9, rfl, hx9⟩ := hx9
    exact z_out hne K (Nat.le_of_ble_eq_true rfl) (Nat.le_of_ble_eq_true rfl) ⟨hI0, zSame_rf _, ⟨hE9, (by unfold kMov; repeat (first | omega | split))⟩⟩
  obtain ⟨hC_10, hc_10⟩ := hp_10
  refine z_C hC_10 ?_
  refine z_aload_n 14 K dX8_move_13 rfl rfl 1 rfl ?_
  refine z_iload_n 15 K dX8_move_14 rfl rfl 3 rfl ?_
  refine z_xVv (As := [.int (iZ t0)]) (rest := []) 18 K 0 (by decide) hMa rfl rfl (m_X8_checkPlace l g _ t0 (f 1) (f 2) (f 0) hMa hSt hEx (by omega) (by omega) hlt) (cwV 1 K.1.2.2.2.2 gX8_move_X8_checkPlace rfl rfl rfl (by decide +kernel) ⟨Nat.le_of_ble_eq_true rfl, Nat.le_of_ble_eq_true rfl⟩) rfl (Nat.le_of_ble_eq_true rfl) dX8_move_15 rfl ⟨by simp only []; omega, by simp only []; omega⟩ rfl (fun E9 C9 hx9 => ?_) (fun C_4 hp_15 => ?_)
  · obtain ⟨hE9, rfl, hx9⟩ := hx9
    exact z_out hne K (Nat.le_of_ble_eq_true rfl) (Nat.le_of_ble_eq_true rfl) ⟨hI0, zSame_rf _, ⟨hE9, (by unfold kMov; repeat (first | omega | split))⟩⟩
  obtain ⟨hC_15, hc_15⟩ := hp_15
  refine z_C hC_15 ?_
  exact absurd (by unfold kMov; repeat (first | omega | split)) hk9
set_option maxRecDepth 20000 in
theorem hin_X8_move_X1 : ∀ w ∈ wsX10, w ∈ wsX8_move := by decide +kernel
set_option maxHeartbeats 4000000 in
set_option maxRecDepth 100000 in
theorem a_X8_move (l : Launch) (g : zG) (C : Nat → va_E) (p0 : Int) (t0 : Int) (f : Int → Int) (past : Int → Int) (tx : Int → Int) (k : Int) (ty : Int) (cap : Int) (hI : IW g C f k past ty tx) (hP : PW cap f k past ty tx) (h_p0 : -2147483648 ≤ p0 ∧ p0 < 2147483648) (h_t0 : -2147483648 ≤ t0 ∧ t0 < 2147483648) (hk9 : kMov f p0 t0 = 0) : Met l yX8_move wsX8_move ({ frames := 4, cells := 0, slots := 0, locals := 103 } : Room) (zPre g C [.ref (aD g 0), .int (iZ p0), .int (iZ t0)]) (zQi g (fun z C' => IW g C' (mMove f p0 t0) (mKp k + 1) (mSav f past k) ty tx ∧ zSame C C' ∧ z = f (2 * p0 + 3))) 0 0 (zA g) := by
  refine z_enter RX8 rfl (by decide) rfl (Nat.le_of_ble_eq_true rfl) ?_
  intro p e s m args below meth c K harg
  refine z_sub (lv' := [(0, .ref (aD g 0)), (1, .int (iZ p0)), (2, .int (iZ t0))]) [0, 1, 2] rfl ?_
  have hI0 := hI
  obtain ⟨hB, hL, hV, hT, hH, hX⟩ := hI
  obtain ⟨hMa, hSp⟩ := id hB
  obtain ⟨num, pgs, cc, cn, cp, pn, pm, ⟨hSt, hEx, hNum, hPgs, hCi, hCc, hCn, hCp, hPr, hPc, hPm⟩, hR⟩ := id hL
  obtain ⟨vb, vt, vf, lt, lo, ⟨hVw, hVb, hVt, hVf, hLe, hLo⟩, hVR⟩ := id hV
  obtain ⟨tc, np, tp, hTr, hTn, hTp, hnp⟩ := id hT
  obtain ⟨cur, stp, pl, px, hTx, hXc, hXl, hXp, hpx⟩ := id hX
  obtain ⟨old, hHi, hHs, hho, -, -⟩ := id hH
  obtain ⟨hw, hk, hpst, hty, htxr, hrtx, hrp, hcap⟩ := id hP
  have hn := hw.n
  have hnx := hw.nx
  have hbp := hw.bp
  have hq : (0 ≤ p0 ∧ p0 < f 1) ∧ (0 ≤ t0 ∧ t0 < f 1) := by
    unfold kMov at hk9
    repeat (first | omega | split at hk9)
  refine z_aload_n 1 K dX8_move_0 rfl rfl 0 rfl ?_
  refine z_get 4 K hin_X8_move_X8 0 (by decide) hMa rfl 0 (by decide) (by decide +kernel : Cond.fieldLink RX8 12 "BriefBuilder" "state" "LBriefBuilder$State;" ∈ wsX8_move) (fun _ h9 => h9) rfl dX8_move_1 rfl ?_
  refine z_get 7 K hin_X8_move_X4 1 (by decide) hSt rfl 0 (by decide) (by decide +kernel : Cond.fieldLink RX8 48 "BriefBuilder$State" "exhibits" "LBriefBuilder$Exhibits;" ∈ wsX8_move) (fun _ h9 => h9) rfl dX8_move_4 rfl ?_
  refine z_astore_n (lv' := [(3, .ref (aD g 2)), (0, .ref (aD g 0)), (1, .int (iZ p0)), (2, .int (iZ t0))]) 8 K dX8_move_7 rfl rfl (by decide) rfl ?_
  refine z_aload_n 9 K dX8_move_8 rfl rfl 1 rfl ?_
  refine z_iload_n 10 K dX8_move_9 rfl rfl 2 rfl ?_
  refine z_vVv (As := [.int (iZ p0)]) (rest := []) 13 K 0 (by decide) hMa rfl rfl (n_X8_checkPlace l g _ p0 (f 1) (f 2) (f 0) hMa hSt hEx (by omega) (by omega) (by omega)) (cwV 1 K.1.2.2.2.2 gX8_move_X8_checkPlace rfl rfl rfl (by decide +kernel) ⟨Nat.le_of_ble_eq_true rfl, Nat.le_of_ble_eq_true rfl⟩) rfl (Nat.le_of_ble_eq_true rfl) dX8_move_10 rfl ⟨Nat.le_of_ble_eq_true rfl, Nat.le_of_ble_eq_true rfl⟩ rfl (fun C_2 hp_10 => ?_)
  refine z_C hp_10 ?_
  refine z_aload_n 14 K dX8_move_13 rfl rfl 1 rfl ?_
  refine z_iload_n 15 K dX8_move_14 rfl rfl 3 rfl ?_
  refine z_vVv (As := [.int (iZ t0)]) (rest := []) 18 K 0 (by decide) hMa rfl rfl (n_X8_checkPlace l g _ t0 (f 1) (f 2) (f 0) hMa hSt hEx (by omega) (by omega) (by omega)) (cwV 1 K.1.2.2.2.2 gX8_move_X8_checkPlace rfl rfl rfl (by decide +kernel) ⟨Nat.le_of_ble_eq_true rfl, Nat.le_of_ble_eq_true rfl⟩) rfl (Nat.le_of_ble_eq_true rfl) dX8_move_15 rfl ⟨Nat.le_of_ble_eq_true rfl, Nat.le_of_ble_eq_true rfl⟩ rfl (fun C_4 hp_15 => ?_)
  refine z_C hp_15 ?_
  refine z_aload_n 19 K dX8_move_18 rfl rfl 1 rfl ?_
  refine z_get 22 K hin_X8_move_X8 0 (by decide) hMa rfl 3 (by decide) (by decide +kernel : Cond.fieldLink RX8 33 "BriefBuilder" "history" "LBriefBuilder$History;" ∈ wsX8_move) (fun _ h9 => h9) rfl dX8_move_19 rfl ?_
  refine z_aload_n 23 K dX8_move_22 rfl rfl 1 rfl ?_
  refine z_get 26 K hin_X8_move_X8 0 (by decide) hMa rfl 0 (by decide) (by decide +kernel : Cond.fieldLink RX8 12 "BriefBuilder" "state" "LBriefBuilder$State;" ∈ wsX8_move) (fun _ h9 => h9) rfl dX8_move_23 rfl ?_
  refine z_vVv (As := [.ref (aD g 1)]) (rest := []) 29 K 21 (by decide) hHi rfl rfl (s_X2_save l g _ f past k cap hH hL hk hw hpst) (cwV 1 K.1.2.2.2.2 gX8_move_X2_save rfl rfl rfl (by decide +kernel) ⟨Nat.le_of_ble_eq_true rfl, Nat.le_of_ble_eq_true rfl⟩) rfl (Nat.le_of_ble_eq_true rfl) dX8_move_26 rfl ⟨Nat.le_of_ble_eq_true rfl, Nat.le_of_ble_eq_true rfl⟩ rfl (fun C_6 hp_26 => ?_)
  obtain ⟨hHn_26, hsm_26⟩ := hp_26
  have hf_26_0 : C_6 0 = .inr (8, [.ref (aD g 1), .ref (aD g 12), .ref (aD g 18), .ref (aD g 21), .ref (aD g 23), .ref (aD g 27)]) := (hsm_26 0 (by omega)).trans hMa
  have hf_26_27 : C_6 27 = eI g 30 (fun k => k) := (hsm_26 27 (by omega)).trans hSp
  have hf_26_1 : C_6 1 = .inr (4, [.ref (aD g 2), .ref (aD g 5), .ref (aD g 9)]) := (hsm_26 1 (by omega)).trans hSt
  have hf_26_2 : C_6 2 = .inr (1, [.ref (aD g 3), .ref (aD g 4), .int (iZ (f 1)), .int (iZ (f 2)), .int (iZ (f 0))]) := (hsm_26 2 (by omega)).trans hEx
  have hf_26_3 : C_6 3 = eI g 30 num := (hsm_26 3 (by omega)).trans hNum
  have hf_26_4 : C_6 4 = eI g 30 pgs := (hsm_26 4 (by omega)).trans hPgs
  have hf_26_5 : C_6 5 = .inr (0, [.ref (aD g 6), .ref (aD g 7), .ref (aD g 8)]) := (hsm_26 5 (by omega)).trans hCi
  have hf_26_6 : C_6 6 = eI g 12 cc := (hsm_26 6 (by omega)).trans hCc
  have hf_26_7 : C_6 7 = eI g 72 cn := (hsm_26 7 (by omega)).trans hCn
  have hf_26_8 : C_6 8 = eI g 72 cp := (hsm_26 8 (by omega)).trans hCp
  have hf_26_9 : C_6 9 = .inr (3, [.ref (aD g 10), .ref (aD g 11)]) := (hsm_26 9 (by omega)).trans hPr
  have hf_26_10 : C_6 10 = eI g 12 pn := (hsm_26 10 (by omega)).trans hPc
  have hf_26_11 : C_6 11 = eI g 72 pm := (hsm_26 11 (by omega)).trans hPm
  have hf_26_12 : C_6 12 = .inr (7, [.ref (aD g 13), .ref (aD g 14), .ref (aD g 15), .ref (aD g 16), .ref (aD g 17), .int (iZ (sBds f))]) := (hsm_26 12 (by omega)).trans hVw
  have hf_26_13 : C_6 13 = eI g 30 vb := (hsm_26 13 (by omega)).trans hVb
  have hf_26_14 : C_6 14 = eI g 30 vt := (hsm_26 14 (by omega)).trans hVt
  have hf_26_15 : C_6 15 = eI g 30 vf := (hsm_26 15 (by omega)).trans hVf
  have hf_26_16 : C_6 16 = eI g 72 lt := (hsm_26 16 (by omega)).trans hLe
  have hf_26_17 : C_6 17 = eZ g 72 lo := (hsm_26 17 (by omega)).trans hLo
  have hf_26_18 : C_6 18 = .inr (6, [.ref (aD g 19), .ref (aD g 20), .int (iZ tc)]) := (hsm_26 18 (by omega)).trans hTr
  have hf_26_19 : C_6 19 = eI g 30 np := (hsm_26 19 (by omega)).trans hTn
  have hf_26_20 : C_6 20 = eI g 31 tp := (hsm_26 20 (by omega)).trans hTp
  have hf_26_22 : C_6 22 = eS g 6 (fun k => some (aD g (28 + 11 * k))) := (hsm_26 22 (by omega)).trans hHs
  have hf_26_23 : C_6 23 = .inr (5, [.ref (aD g 24), .int (iZ ty), .ref (aD g 25), .ref (aD g 26), .int (iZ cur), .int (iZ stp)]) := (hsm_26 23 (by omega)).trans hTx
  have hf_26_24 : C_6 24 = eI g 60 tx := (hsm_26 24 (by omega)).trans hXc
  have hf_26_25 : C_6 25 = eI g 6 pl := (hsm_26 25 (by omega)).trans hXl
  have hf_26_26 : C_6 26 = eI g 6 px := (hsm_26 26 (by omega)).trans hXp
  have hB2 := wB_cong hB (fun q hq => hsm_26 q (by omega))
  have hT2 := wT_cong hT (fun q hq => hsm_26 q (by omega))
  have hX2 := wX_cong hX (fun q hq => hsm_26 q (by omega))
  refine z_aload_n 30 K dX8_move_29 rfl rfl 0 rfl ?_
  refine z_get 33 K hin_X8_move_X1 2 (by decide) hf_26_2 rfl 0 (by decide) (by decide +kernel : Cond.fieldLink RX8 78 "BriefBuilder$Exhibits" "numbers" "[I" ∈ wsX8_move) (fun _ h9 => h9) rfl dX8_move_30 rfl ?_
  refine z_iload_n 34 K dX8_move_33 rfl rfl 2 rfl ?_
  refine z_iald (f := num) 35 K 3 (by decide) hf_26_3 (by omega) (by omega) (by decide) dX8_move_34 rfl ?_
  refine z_top (f (2 * p0 + 3)) (hR.ex p0 (by omega) (by omega)).1 ?_
  refine z_istore (lv' := [(4, .int (iZ (f (2 * p0 + 3)))), (3, .ref (aD g 2)), (0, .ref (aD g 0)), (1, .int (iZ p0)), (2, .int (iZ t0))]) 37 K dX8_move_35 rfl (by decide) rfl ?_
  refine z_aload_n 38 K dX8_move_37 rfl rfl 1 rfl ?_
  refine z_get 41 K hin_X8_move_X1 2 (by decide) hf_26_2 rfl 1 (by decide) (by decide +kernel : Cond.fieldLink RX8 81 "BriefBuilder$Exhibits" "pages" "[I" ∈ wsX8_move) (fun _ h9 => h9) rfl dX8_move_38 rfl ?_
  refine z_iload_n 42 K dX8_move_41 rfl rfl 3 rfl ?_
  refine z_iald (f := pgs) 43 K 4 (by decide) hf_26_4 (by omega) (by omega) (by decide) dX8_move_42 rfl ?_
  refine z_top (f (2 * p0 + 4)) (hR.ex p0 (by omega) (by omega)).2 ?_
  refine z_istore (lv' := [(5, .int (iZ (f (2 * p0 + 4)))), (4, .int (iZ (f (2 * p0 + 3)))), (3, .ref (aD g 2)), (0, .ref (aD g 0)), (1, .int (iZ p0)), (2, .int (iZ t0))]) 45 K dX8_move_43 rfl (by decide) rfl ?_
  refine z_aload_n 46 K dX8_move_45 rfl rfl 2 rfl ?_
  refine z_iload_n 47 K dX8_move_46 rfl rfl 4 rfl ?_
  refine z_vVv (As := [.int (iZ p0)]) (rest := []) 50 K 2 (by decide) hf_26_2 rfl rfl (m_X1_takeOut l g _ p0 (f 1) (f 2) (f 0) num pgs hf_26_2 hf_26_3 hf_26_4 (by omega) (by omega)) (cwV 1 K.1.2.2.2.2 gX8_move_X1_takeOut rfl rfl rfl (by decide +kernel) ⟨Nat.le_of_ble_eq_true rfl, Nat.le_of_ble_eq_true rfl⟩) rfl (Nat.le_of_ble_eq_true rfl) dX8_move_47 rfl ⟨Nat.le_of_ble_eq_true rfl, Nat.le_of_ble_eq_true rfl⟩ rfl (fun C_8 hp_47 => ?_)
  refine z_C hp_47 ?_
  refine z_aload_n 51 K dX8_move_50 rfl rfl 2 rfl ?_
  refine z_iload_n 52 K dX8_move_51 rfl rfl 5 rfl ?_
  refine z_iload 54 K dX8_move_52 rfl 1 rfl ?_
  refine z_iload 56 K dX8_move_54 rfl 0 rfl ?_
  refine z_vVv (As := [.int (iZ t0), .int (iZ (f (2 * p0 + 3))), .int (iZ (f (2 * p0 + 4)))]) (rest := []) 59 K 2 (by decide) ((va_up_ne _ _ (by decide)).trans ((va_up_ne _ _ (by decide)).trans (va_up_eq _ 2 _))) rfl rfl (m_X1_putIn l g _ t0 (f (2 * p0 + 3)) (f (2 * p0 + 4)) (f 1 - 1) (f 2) (f 0) (zOut num (f 1) p0) (zOut pgs (f 1) p0) ((va_up_ne _ _ (by decide)).trans ((va_up_ne _ _ (by decide)).trans (va_up_eq _ 2 _))) ((va_up_ne _ _ (by decide)).trans (va_up_eq _ 3 _)) (va_up_eq _ 4 _) (by omega) (by omega)) (cwV 3 K.1.2.2.2.2 gX8_move_X1_putIn rfl rfl rfl (by decide +kernel) ⟨Nat.le_of_ble_eq_true rfl, Nat.le_of_ble_eq_true rfl⟩) rfl (Nat.le_of_ble_eq_true rfl) dX8_move_56 rfl ⟨Nat.le_of_ble_eq_true rfl, Nat.le_of_ble_eq_true rfl⟩ rfl (fun C_10 hp_56 => ?_)
  rw [show f 1 - 1 + 1 = f 1 by omega] at hp_56
  refine z_C hp_56 ?_
  refine z_C (congrArg (fun c9 => va_up (va_up c9 4 (eI g 30 (zIn (zOut pgs (f 1) p0) (f 1 - 1) t0 (f (2 * p0 + 4))))) 2 (.inr (1, [.ref (aD g 3), .ref (aD g 4), .int (iZ (f 1)), .int (iZ (f 2)), .int (iZ (f 0))]))) (va_uu1 (q := 3) (q1 := 4) (by decide))) ?_
  refine z_C (congrArg (fun c9 => va_up c9 2 (.inr (1, [.ref (aD g 3), .ref (aD g 4), .int (iZ (f 1)), .int (iZ (f 2)), .int (iZ (f 0))]))) (va_uu1 (q := 4) (q1 := 3) (by decide))) ?_
  refine z_C (va_uu2 (by decide) (by decide)) ?_
  refine z_aload_n 60 K dX8_move_59 rfl rfl 3 rfl ?_
  refine z_get 63 K hin_X8_move_X8 0 (by decide) ((va_up_ne _ _ (by decide)).trans ((va_up_ne _ _ (by decide)).trans ((va_up_ne _ _ (by decide)).trans hf_26_0))) rfl 1 (by decide) (by decide +kernel : Cond.fieldLink RX8 19 "BriefBuilder" "view" "LBriefBuilder$View;" ∈ wsX8_move) (fun _ h9 => h9) rfl dX8_move_60 rfl ?_
  refine z_aload_n 64 K dX8_move_63 rfl rfl 3 rfl ?_
  refine z_get 67 K hin_X8_move_X8 0 (by decide) ((va_up_ne _ _ (by decide)).trans ((va_up_ne _ _ (by decide)).trans ((va_up_ne _ _ (by decide)).trans hf_26_0))) rfl 0 (by decide) (by decide +kernel : Cond.fieldLink RX8 12 "BriefBuilder" "state" "LBriefBuilder$State;" ∈ wsX8_move) (fun _ h9 => h9) rfl dX8_move_64 rfl ?_
  have hw2 : WF (mMove f p0 t0) (cap) := WF_move hw (by omega) (by omega) (by omega)
  have hR2 : RS (mMove f p0 t0) (zIn (zOut num (f 1) p0) (f 1 - 1) t0 (f (2 * p0 + 3))) (zIn (zOut pgs (f 1) p0) (f 1 - 1) t0 (f (2 * p0 + 4))) cc cn cp pn pm := (by have q := RS_put (p := t0) (x := f (2 * p0 + 3)) (y := f (2 * p0 + 4)) (RS_out hR (by omega) (p := p0) (by omega)) (by rw [mOut_1]; omega) (by rw [mOut_1]; omega) (by have := hw.rg (2 * p0 + 3); omega); rw [mOut_1] at q; exact q)
  have e1 : f 1 = (mMove f p0 t0) 1 := (mMove_012 f (by omega) (by omega)).1.symm
  have e2 : f 2 = (mMove f p0 t0) 2 := (mMove_012 f (by omega) (by omega)).2.1.symm
  have e3 : f 0 = (mMove f p0 t0) 0 := (mMove_012 f (by omega) (by omega)).2.2.symm
  have hpg2 : ∀ j, 0 ≤ j → j < f 1 → 0 ≤ (zIn (zOut pgs (f 1) p0) (f 1 - 1) t0 (f (2 * p0 + 4))) j ∧ (zIn (zOut pgs (f 1) p0) (f 1 - 1) t0 (f (2 * p0 + 4))) j ≤ 60 := by
    intro j j0 j1
    rw [e1] at j1
    exact hR2.hpg hw2 j j0 j1
  have hbp2 := hw2.bp
  have hn2 := hw2.n
  refine z_vVv (As := [.ref (aD g 1)]) (rest := []) 70 K 12 (by decide) ((va_up_ne _ _ (by decide)).trans ((va_up_ne _ _ (by decide)).trans ((va_up_ne _ _ (by decide)).trans hf_26_12))) rfl rfl (m_X7_follow l g _ (sBds f) vb vt vf lt lo (f 1) (f 2) (f 0) (zIn (zOut num (f 1) p0) (f 1 - 1) t0 (f (2 * p0 + 3))) (zIn (zOut pgs (f 1) p0) (f 1 - 1) t0 (f (2 * p0 + 4))) cc cn cp ((va_up_ne _ _ (by decide)).trans ((va_up_ne _ _ (by decide)).trans ((va_up_ne _ _ (by decide)).trans hf_26_12))) ((va_up_ne _ _ (by decide)).trans ((va_up_ne _ _ (by decide)).trans ((va_up_ne _ _ (by decide)).trans hf_26_13))) ((va_up_ne _ _ (by decide)).trans ((va_up_ne _ _ (by decide)).trans ((va_up_ne _ _ (by decide)).trans hf_26_14))) ((va_up_ne _ _ (by decide)).trans ((va_up_ne _ _ (by decide)).trans ((va_up_ne _ _ (by decide)).trans hf_26_15))) ((va_up_ne _ _ (by decide)).trans ((va_up_ne _ _ (by decide)).trans ((va_up_ne _ _ (by decide)).trans hf_26_16))) ((va_up_ne _ _ (by decide)).trans ((va_up_ne _ _ (by decide)).trans ((va_up_ne _ _ (by decide)).trans hf_26_17))) ((va_up_ne _ _ (by decide)).trans ((va_up_ne _ _ (by decide)).trans ((va_up_ne _ _ (by decide)).trans hf_26_1))) (va_up_eq _ 2 _) ((va_up_ne _ _ (by decide)).trans ((va_up_ne _ _ (by decide)).trans (va_up_eq _ 3 _))) ((va_up_ne _ _ (by decide)).trans (va_up_eq _ 4 _)) ((va_up_ne _ _ (by decide)).trans ((va_up_ne _ _ (by decide)).trans ((va_up_ne _ _ (by decide)).trans hf_26_5))) ((va_up_ne _ _ (by decide)).trans ((va_up_ne _ _ (by decide)).trans ((va_up_ne _ _ (by decide)).trans hf_26_6))) ((va_up_ne _ _ (by decide)).trans ((va_up_ne _ _ (by decide)).trans ((va_up_ne _ _ (by decide)).trans hf_26_7))) ((va_up_ne _ _ (by decide)).trans ((va_up_ne _ _ (by decide)).trans ((va_up_ne _ _ (by decide)).trans hf_26_8))) (by omega) (by omega) hpg2 (hR2.hcc hw2) hVR.2.2.1 hVR.2.2.2 hR2.r1 hR2.r2 (hR2.hcp hw2)) (cwV 1 K.1.2.2.2.2 gX8_move_X7_follow rfl rfl rfl (by decide +kernel) ⟨Nat.le_of_ble_eq_true rfl, Nat.le_of_ble_eq_true rfl⟩) rfl (Nat.le_of_ble_eq_true rfl) dX8_move_67 rfl ⟨Nat.le_of_ble_eq_true rfl, Nat.le_of_ble_eq_true rfl⟩ rfl (fun C_12 hp_67 => ?_)
  obtain ⟨w13_13, w14_14, w15_15, w16_16, w17_17, hC_67, hvf_67, hcf_67, hl16_67, hl17_67⟩ := hp_67
  refine z_C hC_67 ?_
  refine z_iload 72 K dX8_move_70 rfl 1 rfl ?_
  exact z_iret K rfl dX8_move_72 ⟨IW_mk hB2 hT2 hX2 hHn_26 (fun q hq => ((va_up_ne _ _ (by omega)).trans ((va_up_ne _ _ (by omega)).trans ((va_up_ne _ _ (by omega)).trans ((va_up_ne _ _ (by omega)).trans ((va_up_ne _ _ (by omega)).trans ((va_up_ne _ _ (by omega)).trans ((va_up_ne _ _ (by omega)).trans ((va_up_ne _ _ (by omega)).trans ((va_up_ne _ _ (by omega)).trans rfl)))))))))) ⟨((va_up_ne _ _ (by decide)).trans ((va_up_ne _ _ (by decide)).trans ((va_up_ne _ _ (by decide)).trans ((va_up_ne _ _ (by decide)).trans ((va_up_ne _ _ (by decide)).trans ((va_up_ne _ _ (by decide)).trans ((va_up_ne _ _ (by decide)).trans ((va_up_ne _ _ (by decide)).trans ((va_up_ne _ _ (by decide)).trans hf_26_1))))))))), ((va_up_ne _ _ (by decide)).trans ((va_up_ne _ _ (by decide)).trans ((va_up_ne _ _ (by decide)).trans ((va_up_ne _ _ (by decide)).trans ((va_up_ne _ _ (by decide)).trans ((va_up_ne _ _ (by decide)).trans (va_up_eq _ 2 _))))))), ((va_up_ne _ _ (by decide)).trans ((va_up_ne _ _ (by decide)).trans ((va_up_ne _ _ (by decide)).trans ((va_up_ne _ _ (by decide)).trans ((va_up_ne _ _ (by decide)).trans ((va_up_ne _ _ (by decide)).trans ((va_up_ne _ _ (by decide)).trans ((va_up_ne _ _ (by decide)).trans (va_up_eq _ 3 _))))))))), ((va_up_ne _ _ (by decide)).trans ((va_up_ne _ _ (by decide)).trans ((va_up_ne _ _ (by decide)).trans ((va_up_ne _ _ (by decide)).trans ((va_up_ne _ _ (by decide)).trans ((va_up_ne _ _ (by decide)).trans ((va_up_ne _ _ (by decide)).trans (va_up_eq _ 4 _)))))))), ((va_up_ne _ _ (by decide)).trans ((va_up_ne _ _ (by decide)).trans ((va_up_ne _ _ (by decide)).trans ((va_up_ne _ _ (by decide)).trans ((va_up_ne _ _ (by decide)).trans ((va_up_ne _ _ (by decide)).trans ((va_up_ne _ _ (by decide)).trans ((va_up_ne _ _ (by decide)).trans ((va_up_ne _ _ (by decide)).trans hf_26_5))))))))), ((va_up_ne _ _ (by decide)).trans ((va_up_ne _ _ (by decide)).trans ((va_up_ne _ _ (by decide)).trans ((va_up_ne _ _ (by decide)).trans ((va_up_ne _ _ (by decide)).trans ((va_up_ne _ _ (by decide)).trans ((va_up_ne _ _ (by decide)).trans ((va_up_ne _ _ (by decide)).trans ((va_up_ne _ _ (by decide)).trans hf_26_6))))))))), ((va_up_ne _ _ (by decide)).trans ((va_up_ne _ _ (by decide)).trans ((va_up_ne _ _ (by decide)).trans ((va_up_ne _ _ (by decide)).trans ((va_up_ne _ _ (by decide)).trans ((va_up_ne _ _ (by decide)).trans ((va_up_ne _ _ (by decide)).trans ((va_up_ne _ _ (by decide)).trans ((va_up_ne _ _ (by decide)).trans hf_26_7))))))))), ((va_up_ne _ _ (by decide)).trans ((va_up_ne _ _ (by decide)).trans ((va_up_ne _ _ (by decide)).trans ((va_up_ne _ _ (by decide)).trans ((va_up_ne _ _ (by decide)).trans ((va_up_ne _ _ (by decide)).trans ((va_up_ne _ _ (by decide)).trans ((va_up_ne _ _ (by decide)).trans ((va_up_ne _ _ (by decide)).trans hf_26_8))))))))), ((va_up_ne _ _ (by decide)).trans ((va_up_ne _ _ (by decide)).trans ((va_up_ne _ _ (by decide)).trans ((va_up_ne _ _ (by decide)).trans ((va_up_ne _ _ (by decide)).trans ((va_up_ne _ _ (by decide)).trans ((va_up_ne _ _ (by decide)).trans ((va_up_ne _ _ (by decide)).trans ((va_up_ne _ _ (by decide)).trans hf_26_9))))))))), ((va_up_ne _ _ (by decide)).trans ((va_up_ne _ _ (by decide)).trans ((va_up_ne _ _ (by decide)).trans ((va_up_ne _ _ (by decide)).trans ((va_up_ne _ _ (by decide)).trans ((va_up_ne _ _ (by decide)).trans ((va_up_ne _ _ (by decide)).trans ((va_up_ne _ _ (by decide)).trans ((va_up_ne _ _ (by decide)).trans hf_26_10))))))))), ((va_up_ne _ _ (by decide)).trans ((va_up_ne _ _ (by decide)).trans ((va_up_ne _ _ (by decide)).trans ((va_up_ne _ _ (by decide)).trans ((va_up_ne _ _ (by decide)).trans ((va_up_ne _ _ (by decide)).trans ((va_up_ne _ _ (by decide)).trans ((va_up_ne _ _ (by decide)).trans ((va_up_ne _ _ (by decide)).trans hf_26_11)))))))))⟩ e1 e2 e3 hR2 hw2 ⟨((va_up_ne _ _ (by decide)).trans ((va_up_ne _ _ (by decide)).trans (va_up_eq _ 12 _))), ((va_up_ne _ _ (by decide)).trans ((va_up_ne _ _ (by decide)).trans ((va_up_ne _ _ (by decide)).trans ((va_up_ne _ _ (by decide)).trans ((va_up_ne _ _ (by decide)).trans (va_up_eq _ 13 _)))))), ((va_up_ne _ _ (by decide)).trans ((va_up_ne _ _ (by decide)).trans ((va_up_ne _ _ (by decide)).trans ((va_up_ne _ _ (by decide)).trans (va_up_eq _ 14 _))))), ((va_up_ne _ _ (by decide)).trans ((va_up_ne _ _ (by decide)).trans ((va_up_ne _ _ (by decide)).trans (va_up_eq _ 15 _)))), ((va_up_ne _ _ (by decide)).trans (va_up_eq _ 16 _)), (va_up_eq _ 17 _)⟩ rfl hvf_67 hcf_67 hl16_67 hl17_67, fun q hq => (((va_up_ne _ _ (by omega)).trans ((va_up_ne _ _ (by omega)).trans ((va_up_ne _ _ (by omega)).trans ((va_up_ne _ _ (by omega)).trans ((va_up_ne _ _ (by omega)).trans ((va_up_ne _ _ (by omega)).trans ((va_up_ne _ _ (by omega)).trans ((va_up_ne _ _ (by omega)).trans ((va_up_ne _ _ (by omega)).trans rfl)))))))))).trans (hsm_26 q (by omega)), rfl⟩
set_option maxHeartbeats 4000000 in
set_option maxRecDepth 100000 in
theorem x_X8_pages (l : Launch) (g : zG) (C : Nat → va_E) (p0 : Int) (y : Int) (f : Int → Int) (past : Int → Int) (tx : Int → Int) (k : Int) (ty : Int) (cap : Int) (hI : IW g C f k past ty tx) (hP : PW cap f k past ty tx) (h_p0 : -2147483648 ≤ p0 ∧ p0 < 2147483648) (h_y : -2147483648 ≤ y ∧ y < 2147483648) (hk9 : kPgs f p0 y ≠ 0) (hlt : l.stackTraces = false) : vx_Met l yX8_pages wsX8_pages ({ frames := 7, cells := 2, slots := 12, locals := 103 } : Room) (zPre g C [.ref (aD g 0), .int (iZ p0), .int (iZ y)]) (zQi g (fun z C' => False)) (zX g (fun E C' => IW g C' f k past ty tx ∧ zSame C C' ∧ ((E = "java/lang/IndexOutOfBoundsException" ∧ kPgs f p0 y = 1) ∨ (E = "java/lang/IllegalArgumentException" ∧ kPgs f p0 y = 2)))) 2 12 (zA g) := by
  refine z_enterX RX8 rfl (by decide) rfl (Nat.le_of_ble_eq_true rfl) ?_
  intro p e s m args below meth c K harg hne
  refine z_sub (lv' := [(0, .ref (aD g 0)), (1, .int (iZ p0)), (2, .int (iZ y))]) [0, 1, 2] rfl ?_
  have hI0 := hI
  obtain ⟨hB, hL, hV, hT, hH, hX⟩ := hI
  obtain ⟨hMa, hSp⟩ := id hB
  obtain ⟨num, pgs, cc, cn, cp, pn, pm, ⟨hSt, hEx, hNum, hPgs, hCi, hCc, hCn, hCp, hPr, hPc, hPm⟩, hR⟩ := id hL
  obtain ⟨vb, vt, vf, lt, lo, ⟨hVw, hVb, hVt, hVf, hLe, hLo⟩, hVR⟩ := id hV
  obtain ⟨tc, np, tp, hTr, hTn, hTp, hnp⟩ := id hT
  obtain ⟨cur, stp, pl, px, hTx, hXc, hXl, hXp, hpx⟩ := id hX
  obtain ⟨old, hHi, hHs, hho, -, -⟩ := id hH
  obtain ⟨hw, hk, hpst, hty, htxr, hrtx, hrp, hcap⟩ := id hP
  have hn := hw.n
  have hnx := hw.nx
  have hbp := hw.bp
  refine z_aload_n 1 K dX8_pages_0 rfl rfl 0 rfl ?_
  refine z_iload_n 2 K dX8_pages_1 rfl rfl 1 rfl ?_
  refine z_xVv (As := [.int (iZ p0)]) (rest := []) 5 K 0 (by decide) hMa rfl rfl (m_X8_checkPlace l g _ p0 (f 1) (f 2) (f 0) hMa hSt hEx (by omega) (by omega) hlt) (cwV 1 K.1.2.2.2.2 gX8_pages_X8_checkPlace rfl rfl rfl (by decide +kernel) ⟨Nat.le_of_ble_eq_true rfl, Nat.le_of_ble_eq_true rfl⟩) rfl (Nat.le_of_ble_eq_true rfl) dX8_pages_2 rfl ⟨Nat.le_of_ble_eq_true rfl, Nat.le_of_ble_eq_true rfl⟩ rfl (fun E9 C9 hx9 => ?_) (fun C_2 hp_2 => ?_)
  · obtain ⟨hE9, rfl, hx9⟩ := hx9
    exact z_out hne K (Nat.le_of_ble_eq_true rfl) (Nat.le_of_ble_eq_true rfl) ⟨hI0, zSame_rf _, Or.inl ⟨hE9, (by unfold kPgs; repeat (first | omega | split))⟩⟩
  obtain ⟨hC_2, hc_2⟩ := hp_2
  refine z_C hC_2 ?_
  refine z_iload_n 6 K dX8_pages_5 rfl rfl 2 rfl ?_
  refine z_xSv (As := [.int (iZ y)]) (rest := []) 9 K (m_X8_checkPages l g _ y (by omega) hlt) (va_cwS 1 K.1.2.2.2.2 gX8_pages_X8_checkPages rfl rfl rfl (by decide +kernel) ⟨Nat.le_of_ble_eq_true rfl, Nat.le_of_ble_eq_true rfl⟩) rfl (Nat.le_of_ble_eq_true rfl) dX8_pages_6 rfl ⟨by simp only []; omega, by simp only []; omega⟩ rfl (fun E9 C9 hx9 => ?_) (fun C_4 hp_6 => ?_)
  · obtain ⟨hE9, rfl, hx9⟩ := hx9
    exact z_out hne K (Nat.le_of_ble_eq_true rfl) (Nat.le_of_ble_eq_true rfl) ⟨hI0, zSame_rf _, Or.inr (⟨hE9, (by unfold kPgs; repeat (first | omega | split))⟩)⟩
  obtain ⟨hC_6, hc_6⟩ := hp_6
  refine z_C hC_6 ?_
  exact absurd (by unfold kPgs; repeat (first | omega | split)) hk9
set_option maxRecDepth 20000 in
theorem hin_X8_pages_X1 : ∀ w ∈ wsX10, w ∈ wsX8_pages := by decide +kernel
set_option maxRecDepth 20000 in
theorem hin_X8_pages_X4 : ∀ w ∈ wsX40, w ∈ wsX8_pages := by decide +kernel
set_option maxRecDepth 20000 in
theorem hin_X8_pages_X8 : ∀ w ∈ wsX80, w ∈ wsX8_pages := by decide +kernel
set_option maxHeartbeats 4000000 in
set_option maxRecDepth 100000 in
theorem a_X8_pages (l : Launch) (g : zG) (C : Nat → va_E) (p0 : Int) (y : Int) (f : Int → Int) (past : Int → Int) (tx : Int → Int) (k : Int) (ty : Int) (cap : Int) (hI : IW g C f k past ty tx) (hP : PW cap f k past ty tx) (h_p0 : -2147483648 ≤ p0 ∧ p0 < 2147483648) (h_y : -2147483648 ≤ y ∧ y < 2147483648) (hk9 : kPgs f p0 y = 0) : Met l yX8_pages wsX8_pages ({ frames := 4, cells := 0, slots := 0, locals := 103 } : Room) (zPre g C [.ref (aD g 0), .int (iZ p0), .int (iZ y)]) (zQi g (fun z C' => IW g C' (zu f (2 * p0 + 4) y) (mKp k + 1) (mSav f past k) ty tx ∧ zSame C C' ∧ z = f (2 * p0 + 4))) 0 0 (zA g) := by
  refine z_enter RX8 rfl (by decide) rfl (Nat.le_of_ble_eq_true rfl) ?_
  intro p e s m args below meth c K harg
  refine z_sub (lv' := [(0, .ref (aD g 0)), (1, .int (iZ p0)), (2, .int (iZ y))]) [0, 1, 2] rfl ?_
  have hI0 := hI
  obtain ⟨hB, hL, hV, hT, hH, hX⟩ := hI
  obtain ⟨hMa, hSp⟩ := id hB
  obtain ⟨num, pgs, cc, cn, cp, pn, pm, ⟨hSt, hEx, hNum, hPgs, hCi, hCc, hCn, hCp, hPr, hPc, hPm⟩, hR⟩ := id hL
  obtain ⟨vb, vt, vf, lt, lo, ⟨hVw, hVb, hVt, hVf, hLe, hLo⟩, hVR⟩ := id hV
  obtain ⟨tc, np, tp, hTr, hTn, hTp, hnp⟩ := id hT
  obtain ⟨cur, stp, pl, px, hTx, hXc, hXl, hXp, hpx⟩ := id hX
  obtain ⟨old, hHi, hHs, hho, -, -⟩ := id hH
  obtain ⟨hw, hk, hpst, hty, htxr, hrtx, hrp, hcap⟩ := id hP
  have hn := hw.n
  have hnx := hw.nx
  have hbp := hw.bp
  have hq : (0 ≤ p0 ∧ p0 < f 1) ∧ (1 ≤ y ∧ y ≤ 60) := by
    unfold kPgs at hk9
    repeat (first | omega | split at hk9)
  refine z_aload_n 1 K dX8_pages_0 rfl rfl 0 rfl ?_
  refine z_iload_n 2 K dX8_pages_1 rfl rfl 1 rfl ?_
  refine z_vVv (As := [.int (iZ p0)]) (rest := []) 5 K 0 (by decide) hMa rfl rfl (n_X8_checkPlace l g _ p0 (f 1) (f 2) (f 0) hMa hSt hEx (by omega) (by omega) (by omega)) (cwV 1 K.1.2.2.2.2 gX8_pages_X8_checkPlace rfl rfl rfl (by decide +kernel) ⟨Nat.le_of_ble_eq_true rfl, Nat.le_of_ble_eq_true rfl⟩) rfl (Nat.le_of_ble_eq_true rfl) dX8_pages_2 rfl ⟨Nat.le_of_ble_eq_true rfl, Nat.le_of_ble_eq_true rfl⟩ rfl (fun C_2 hp_2 => ?_)
  refine z_C hp_2 ?_
  refine z_iload_n 6 K dX8_pages_5 rfl rfl 2 rfl ?_
  refine z_vSv (As := [.int (iZ y)]) (rest := []) 9 K (n_X8_checkPages l g _ y (by omega) (by omega)) (va_cwS 1 K.1.2.2.2.2 gX8_pages_X8_checkPages rfl rfl rfl (by decide +kernel) ⟨Nat.le_of_ble_eq_true rfl, Nat.le_of_ble_eq_true rfl⟩) rfl (Nat.le_of_ble_eq_true rfl) dX8_pages_6 rfl ⟨Nat.le_of_ble_eq_true rfl, Nat.le_of_ble_eq_true rfl⟩ rfl (fun C_4 hp_6 => ?_)
  refine z_C hp_6 ?_
  refine z_aload_n 10 K dX8_pages_9 rfl rfl 0 rfl ?_
  refine z_get 13 K hin_X8_pages_X8 0 (by decide) hMa rfl 3 (by decide) (by decide +kernel : Cond.fieldLink RX8 33 "BriefBuilder" "history" "LBriefBuilder$History;" ∈ wsX8_pages) (fun _ h9 => h9) rfl dX8_pages_10 rfl ?_
  refine z_aload_n 14 K dX8_pages_13 rfl rfl 0 rfl ?_
  refine z_get 17 K hin_X8_pages_X8 0 (by decide) hMa rfl 0 (by decide) (by decide +kernel : Cond.fieldLink RX8 12 "BriefBuilder" "state" "LBriefBuilder$State;" ∈ wsX8_pages) (fun _ h9 => h9) rfl dX8_pages_14 rfl ?_
  refine z_vVv (As := [.ref (aD g 1)]) (rest := []) 20 K 21 (by decide) hHi rfl rfl (s_X2_save l g _ f past k cap hH hL hk hw hpst) (cwV 1 K.1.2.2.2.2 gX8_pages_X2_save rfl rfl rfl (by decide +kernel) ⟨Nat.le_of_ble_eq_true rfl, Nat.le_of_ble_eq_true rfl⟩) rfl (Nat.le_of_ble_eq_true rfl) dX8_pages_17 rfl ⟨Nat.le_of_ble_eq_true rfl, Nat.le_of_ble_eq_true rfl⟩ rfl (fun C_6 hp_17 => ?_)
  obtain ⟨hHn_17, hsm_17⟩ := hp_17
  have hf_17_0 : C_6 0 = .inr (8, [.ref (aD g 1), .ref (aD g 12), .ref (aD g 18), .ref (aD g 21), .ref (aD g 23), .ref (aD g 27)]) := (hsm_17 0 (by omega)).trans hMa
  have hf_17_27 : C_6 27 = eI g 30 (fun k => k) := (hsm_17 27 (by omega)).trans hSp
  have hf_17_1 : C_6 1 = .inr (4, [.ref (aD g 2), .ref (aD g 5), .ref (aD g 9)]) := (hsm_17 1 (by omega)).trans hSt
  have hf_17_2 : C_6 2 = .inr (1, [.ref (aD g 3), .ref (aD g 4), .int (iZ (f 1)), .int (iZ (f 2)), .int (iZ (f 0))]) := (hsm_17 2 (by omega)).trans hEx
  have hf_17_3 : C_6 3 = eI g 30 num := (hsm_17 3 (by omega)).trans hNum
  have hf_17_4 : C_6 4 = eI g 30 pgs := (hsm_17 4 (by omega)).trans hPgs
  have hf_17_5 : C_6 5 = .inr (0, [.ref (aD g 6), .ref (aD g 7), .ref (aD g 8)]) := (hsm_17 5 (by omega)).trans hCi
  have hf_17_6 : C_6 6 = eI g 12 cc := (hsm_17 6 (by omega)).trans hCc
  have hf_17_7 : C_6 7 = eI g 72 cn := (hsm_17 7 (by omega)).trans hCn
  have hf_17_8 : C_6 8 = eI g 72 cp := (hsm_17 8 (by omega)).trans hCp
  have hf_17_9 : C_6 9 = .inr (3, [.ref (aD g 10), .ref (aD g 11)]) := (hsm_17 9 (by omega)).trans hPr
  have hf_17_10 : C_6 10 = eI g 12 pn := (hsm_17 10 (by omega)).trans hPc
  have hf_17_11 : C_6 11 = eI g 72 pm := (hsm_17 11 (by omega)).trans hPm
  have hf_17_12 : C_6 12 = .inr (7, [.ref (aD g 13), .ref (aD g 14), .ref (aD g 15), .ref (aD g 16), .ref (aD g 17), .int (iZ (sBds f))]) := (hsm_17 12 (by omega)).trans hVw
  have hf_17_13 : C_6 13 = eI g 30 vb := (hsm_17 13 (by omega)).trans hVb
  have hf_17_14 : C_6 14 = eI g 30 vt := (hsm_17 14 (by omega)).trans hVt
  have hf_17_15 : C_6 15 = eI g 30 vf := (hsm_17 15 (by omega)).trans hVf
  have hf_17_16 : C_6 16 = eI g 72 lt := (hsm_17 16 (by omega)).trans hLe
  have hf_17_17 : C_6 17 = eZ g 72 lo := (hsm_17 17 (by omega)).trans hLo
  have hf_17_18 : C_6 18 = .inr (6, [.ref (aD g 19), .ref (aD g 20), .int (iZ tc)]) := (hsm_17 18 (by omega)).trans hTr
  have hf_17_19 : C_6 19 = eI g 30 np := (hsm_17 19 (by omega)).trans hTn
  have hf_17_20 : C_6 20 = eI g 31 tp := (hsm_17 20 (by omega)).trans hTp
  have hf_17_22 : C_6 22 = eS g 6 (fun k => some (aD g (28 + 11 * k))) := (hsm_17 22 (by omega)).trans hHs
  have hf_17_23 : C_6 23 = .inr (5, [.ref (aD g 24), .int (iZ ty), .ref (aD g 25), .ref (aD g 26), .int (iZ cur), .int (iZ stp)]) := (hsm_17 23 (by omega)).trans hTx
  have hf_17_24 : C_6 24 = eI g 60 tx := (hsm_17 24 (by omega)).trans hXc
  have hf_17_25 : C_6 25 = eI g 6 pl := (hsm_17 25 (by omega)).trans hXl
  have hf_17_26 : C_6 26 = eI g 6 px := (hsm_17 26 (by omega)).trans hXp
  have hB2 := wB_cong hB (fun q hq => hsm_17 q (by omega))
  have hT2 := wT_cong hT (fun q hq => hsm_17 q (by omega))
  have hX2 := wX_cong hX (fun q hq => hsm_17 q (by omega))
  refine z_aload_n 21 K dX8_pages_20 rfl rfl 0 rfl ?_
  refine z_get 24 K hin_X8_pages_X8 0 (by decide) hf_17_0 rfl 0 (by decide) (by decide +kernel : Cond.fieldLink RX8 12 "BriefBuilder" "state" "LBriefBuilder$State;" ∈ wsX8_pages) (fun _ h9 => h9) rfl dX8_pages_21 rfl ?_
  refine z_get 27 K hin_X8_pages_X4 1 (by decide) hf_17_1 rfl 0 (by decide) (by decide +kernel : Cond.fieldLink RX8 48 "BriefBuilder$State" "exhibits" "LBriefBuilder$Exhibits;" ∈ wsX8_pages) (fun _ h9 => h9) rfl dX8_pages_24 rfl ?_
  refine z_get 30 K hin_X8_pages_X1 2 (by decide) hf_17_2 rfl 1 (by decide) (by decide +kernel : Cond.fieldLink RX8 81 "BriefBuilder$Exhibits" "pages" "[I" ∈ wsX8_pages) (fun _ h9 => h9) rfl dX8_pages_27 rfl ?_
  refine z_iload_n 31 K dX8_pages_30 rfl rfl 1 rfl ?_
  refine z_iald (f := pgs) 32 K 4 (by decide) hf_17_4 (by omega) (by omega) (by decide) dX8_pages_31 rfl ?_
  refine z_top (f (2 * p0 + 4)) (hR.ex p0 (by omega) (by omega)).2 ?_
  refine z_istore_n (lv' := [(3, .int (iZ (f (2 * p0 + 4)))), (0, .ref (aD g 0)), (1, .int (iZ p0)), (2, .int (iZ y))]) 33 K dX8_pages_32 rfl rfl (by decide) rfl ?_
  refine z_aload_n 34 K dX8_pages_33 rfl rfl 1 rfl ?_
  refine z_get 37 K hin_X8_pages_X8 0 (by decide) hf_17_0 rfl 0 (by decide) (by decide +kernel : Cond.fieldLink RX8 12 "BriefBuilder" "state" "LBriefBuilder$State;" ∈ wsX8_pages) (fun _ h9 => h9) rfl dX8_pages_34 rfl ?_
  refine z_get 40 K hin_X8_pages_X4 1 (by decide) hf_17_1 rfl 0 (by decide) (by decide +kernel : Cond.fieldLink RX8 48 "BriefBuilder$State" "exhibits" "LBriefBuilder$Exhibits;" ∈ wsX8_pages) (fun _ h9 => h9) rfl dX8_pages_37 rfl ?_
  refine z_get 43 K hin_X8_pages_X1 2 (by decide) hf_17_2 rfl 1 (by decide) (by decide +kernel : Cond.fieldLink RX8 81 "BriefBuilder$Exhibits" "pages" "[I" ∈ wsX8_pages) (fun _ h9 => h9) rfl dX8_pages_40 rfl ?_
  refine z_iload_n 44 K dX8_pages_43 rfl rfl 2 rfl ?_
  refine z_iload_n 45 K dX8_pages_44 rfl rfl 3 rfl ?_
  refine z_iast (f := pgs) 46 K 4 (by decide) hf_17_4 (by omega) (by omega) (by decide) dX8_pages_45 rfl ?_
  refine z_aload_n 47 K dX8_pages_46 rfl rfl 1 rfl ?_
  refine z_get 50 K hin_X8_pages_X8 0 (by decide) ((va_up_ne _ _ (by decide)).trans hf_17_0) rfl 1 (by decide) (by decide +kernel : Cond.fieldLink RX8 19 "BriefBuilder" "view" "LBriefBuilder$View;" ∈ wsX8_pages) (fun _ h9 => h9) rfl dX8_pages_47 rfl ?_
  refine z_aload_n 51 K dX8_pages_50 rfl rfl 1 rfl ?_
  refine z_get 54 K hin_X8_pages_X8 0 (by decide) ((va_up_ne _ _ (by decide)).trans hf_17_0) rfl 0 (by decide) (by decide +kernel : Cond.fieldLink RX8 12 "BriefBuilder" "state" "LBriefBuilder$State;" ∈ wsX8_pages) (fun _ h9 => h9) rfl dX8_pages_51 rfl ?_
  have hw2 : WF (zu f (2 * p0 + 4) y) (cap) := WF_pages hw (by omega) (by omega)
  have hR2 : RS (zu f (2 * p0 + 4) y) num (zu pgs p0 y) cc cn cp pn pm := RS_pages hR (by omega) (by omega)
  have e1 : f 1 = (zu f (2 * p0 + 4) y) 1 := (zu_ne _ _ (by omega)).symm
  have e2 : f 2 = (zu f (2 * p0 + 4) y) 2 := (zu_ne _ _ (by omega)).symm
  have e3 : f 0 = (zu f (2 * p0 + 4) y) 0 := (zu_ne _ _ (by omega)).symm
  have hpg2 : ∀ j, 0 ≤ j → j < f 1 → 0 ≤ (zu pgs p0 y) j ∧ (zu pgs p0 y) j ≤ 60 := by
    intro j j0 j1
    rw [e1] at j1
    exact hR2.hpg hw2 j j0 j1
  have hbp2 := hw2.bp
  have hn2 := hw2.n
  refine z_vVv (As := [.ref (aD g 1)]) (rest := []) 57 K 12 (by decide) ((va_up_ne _ _ (by decide)).trans hf_17_12) rfl rfl (m_X7_follow l g _ (sBds f) vb vt vf lt lo (f 1) (f 2) (f 0) num (zu pgs p0 y) cc cn cp ((va_up_ne _ _ (by decide)).trans hf_17_12) ((va_up_ne _ _ (by decide)).trans hf_17_13) ((va_up_ne _ _ (by decide)).trans hf_17_14) ((va_up_ne _ _ (by decide)).trans hf_17_15) ((va_up_ne _ _ (by decide)).trans hf_17_16) ((va_up_ne _ _ (by decide)).trans hf_17_17) ((va_up_ne _ _ (by decide)).trans hf_17_1) ((va_up_ne _ _ (by decide)).trans hf_17_2) ((va_up_ne _ _ (by decide)).trans hf_17_3) (va_up_eq _ 4 _) ((va_up_ne _ _ (by decide)).trans hf_17_5) ((va_up_ne _ _ (by decide)).trans hf_17_6) ((va_up_ne _ _ (by decide)).trans hf_17_7) ((va_up_ne _ _ (by decide)).trans hf_17_8) (by omega) (by omega) hpg2 (hR2.hcc hw2) hVR.2.2.1 hVR.2.2.2 hR2.r1 hR2.r2 (hR2.hcp hw2)) (cwV 1 K.1.2.2.2.2 gX8_pages_X7_follow rfl rfl rfl (by decide +kernel) ⟨Nat.le_of_ble_eq_true rfl, Nat.le_of_ble_eq_true rfl⟩) rfl (Nat.le_of_ble_eq_true rfl) dX8_pages_54 rfl ⟨Nat.le_of_ble_eq_true rfl, Nat.le_of_ble_eq_true rfl⟩ rfl (fun C_8 hp_54 => ?_)
  obtain ⟨w13_9, w14_10, w15_11, w16_12, w17_13, hC_54, hvf_54, hcf_54, hl16_54, hl17_54⟩ := hp_54
  refine z_C hC_54 ?_
  refine z_iload_n 58 K dX8_pages_57 rfl rfl 0 rfl ?_
  exact z_iret K rfl dX8_pages_58 ⟨IW_mk hB2 hT2 hX2 hHn_17 (fun q hq => ((va_up_ne _ _ (by omega)).trans ((va_up_ne _ _ (by omega)).trans ((va_up_ne _ _ (by omega)).trans ((va_up_ne _ _ (by omega)).trans ((va_up_ne _ _ (by omega)).trans ((va_up_ne _ _ (by omega)).trans ((va_up_ne _ _ (by omega)).trans rfl)))))))) ⟨((va_up_ne _ _ (by decide)).trans ((va_up_ne _ _ (by decide)).trans ((va_up_ne _ _ (by decide)).trans ((va_up_ne _ _ (by decide)).trans ((va_up_ne _ _ (by decide)).trans ((va_up_ne _ _ (by decide)).trans ((va_up_ne _ _ (by decide)).trans hf_17_1))))))), ((va_up_ne _ _ (by decide)).trans ((va_up_ne _ _ (by decide)).trans ((va_up_ne _ _ (by decide)).trans ((va_up_ne _ _ (by decide)).trans ((va_up_ne _ _ (by decide)).trans ((va_up_ne _ _ (by decide)).trans ((va_up_ne _ _ (by decide)).trans hf_17_2))))))), ((va_up_ne _ _ (by decide)).trans ((va_up_ne _ _ (by decide)).trans ((va_up_ne _ _ (by decide)).trans ((va_up_ne _ _ (by decide)).trans ((va_up_ne _ _ (by decide)).trans ((va_up_ne _ _ (by decide)).trans ((va_up_ne _ _ (by decide)).trans hf_17_3))))))), ((va_up_ne _ _ (by decide)).trans ((va_up_ne _ _ (by decide)).trans ((va_up_ne _ _ (by decide)).trans ((va_up_ne _ _ (by decide)).trans ((va_up_ne _ _ (by decide)).trans ((va_up_ne _ _ (by decide)).trans (va_up_eq _ 4 _))))))), ((va_up_ne _ _ (by decide)).trans ((va_up_ne _ _ (by decide)).trans ((va_up_ne _ _ (by decide)).trans ((va_up_ne _ _ (by decide)).trans ((va_up_ne _ _ (by decide)).trans ((va_up_ne _ _ (by decide)).trans ((va_up_ne _ _ (by decide)).trans hf_17_5))))))), ((va_up_ne _ _ (by decide)).trans ((va_up_ne _ _ (by decide)).trans ((va_up_ne _ _ (by decide)).trans ((va_up_ne _ _ (by decide)).trans ((va_up_ne _ _ (by decide)).trans ((va_up_ne _ _ (by decide)).trans ((va_up_ne _ _ (by decide)).trans hf_17_6))))))), ((va_up_ne _ _ (by decide)).trans ((va_up_ne _ _ (by decide)).trans ((va_up_ne _ _ (by decide)).trans ((va_up_ne _ _ (by decide)).trans ((va_up_ne _ _ (by decide)).trans ((va_up_ne _ _ (by decide)).trans ((va_up_ne _ _ (by decide)).trans hf_17_7))))))), ((va_up_ne _ _ (by decide)).trans ((va_up_ne _ _ (by decide)).trans ((va_up_ne _ _ (by decide)).trans ((va_up_ne _ _ (by decide)).trans ((va_up_ne _ _ (by decide)).trans ((va_up_ne _ _ (by decide)).trans ((va_up_ne _ _ (by decide)).trans hf_17_8))))))), ((va_up_ne _ _ (by decide)).trans ((va_up_ne _ _ (by decide)).trans ((va_up_ne _ _ (by decide)).trans ((va_up_ne _ _ (by decide)).trans ((va_up_ne _ _ (by decide)).trans ((va_up_ne _ _ (by decide)).trans ((va_up_ne _ _ (by decide)).trans hf_17_9))))))), ((va_up_ne _ _ (by decide)).trans ((va_up_ne _ _ (by decide)).trans ((va_up_ne _ _ (by decide)).trans ((va_up_ne _ _ (by decide)).trans ((va_up_ne _ _ (by decide)).trans ((va_up_ne _ _ (by decide)).trans ((va_up_ne _ _ (by decide)).trans hf_17_10))))))), ((va_up_ne _ _ (by decide)).trans ((va_up_ne _ _ (by decide)).trans ((va_up_ne _ _ (by decide)).trans ((va_up_ne _ _ (by decide)).trans ((va_up_ne _ _ (by decide)).trans ((va_up_ne _ _ (by decide)).trans ((va_up_ne _ _ (by decide)).trans hf_17_11)))))))⟩ e1 e2 e3 hR2 hw2 ⟨((va_up_ne _ _ (by decide)).trans ((va_up_ne _ _ (by decide)).trans (va_up_eq _ 12 _))), ((va_up_ne _ _ (by decide)).trans ((va_up_ne _ _ (by decide)).trans ((va_up_ne _ _ (by decide)).trans ((va_up_ne _ _ (by decide)).trans ((va_up_ne _ _ (by decide)).trans (va_up_eq _ 13 _)))))), ((va_up_ne _ _ (by decide)).trans ((va_up_ne _ _ (by decide)).trans ((va_up_ne _ _ (by decide)).trans ((va_up_ne _ _ (by decide)).trans (va_up_eq _ 14 _))))), ((va_up_ne _ _ (by decide)).trans ((va_up_ne _ _ (by decide)).trans ((va_up_ne _ _ (by decide)).trans (va_up_eq _ 15 _)))), ((va_up_ne _ _ (by decide)).trans (va_up_eq _ 16 _)), (va_up_eq _ 17 _)⟩ rfl hvf_54 hcf_54 hl16_54 hl17_54, fun q hq => (((va_up_ne _ _ (by omega)).trans ((va_up_ne _ _ (by omega)).trans ((va_up_ne _ _ (by omega)).trans ((va_up_ne _ _ (by omega)).trans ((va_up_ne _ _ (by omega)).trans ((va_up_ne _ _ (by omega)).trans ((va_up_ne _ _ (by omega)).trans rfl)))))))).trans (hsm_17 q (by omega)), rfl⟩
set_option maxRecDepth 20000 in
theorem hat1_X8_set_13 : ∀ w ∈ (vx_atS RX8 124 "java/lang/IllegalArgumentException" ["java/lang/RuntimeException", "java/lang/Exception"]).filter goodWord, w ∈ wsX8_set := by decide +kernel
set_option maxHeartbeats 4000000 in
set_option maxRecDepth 100000 in
theorem x_X8_set (l : Launch) (g : zG) (C : Nat → va_E) (y : Int) (f : Int → Int) (past : Int → Int) (tx : Int → Int) (k : Int) (ty : Int) (cap : Int) (hI : IW g C f k past ty tx) (hP : PW cap f k past ty tx) (h_y : -2147483648 ≤ y ∧ y < 2147483648) (hk9 : kSet y ≠ 0) (hlt : l.stackTraces = false) : vx_Met l yX8_set wsX8_set ({ frames := 6, cells := 1, slots := 6, locals := 82 } : Room) (zPre g C [.ref (aD g 0), .int (iZ y)]) (zQi g (fun z C' => False)) (zX g (fun E C' => IW g C' f k past ty tx ∧ zSame C C' ∧ ((E = "java/lang/IllegalArgumentException" ∧ kSet y = 1)))) 1 6 (zA g) := by
  refine z_enterX RX8 rfl (by decide) rfl (Nat.le_of_ble_eq_true rfl) ?_
  intro p e s m args below meth c K harg hne
  refine z_sub (lv' := [(0, .ref (aD g 0)), (1, .int (iZ y))]) [0, 1] rfl ?_
  have hI0 := hI
  obtain ⟨hB, hL, hV, hT, hH, hX⟩ := hI
  obtain ⟨hMa, hSp⟩ := id hB
  obtain ⟨num, pgs, cc, cn, cp, pn, pm, ⟨hSt, hEx, hNum, hPgs, hCi, hCc, hCn, hCp, hPr, hPc, hPm⟩, hR⟩ := id hL
  obtain ⟨vb, vt, vf, lt, lo, ⟨hVw, hVb, hVt, hVf, hLe, hLo⟩, hVR⟩ := id hV
  obtain ⟨tc, np, tp, hTr, hTn, hTp, hnp⟩ := id hT
  obtain ⟨cur, stp, pl, px, hTx, hXc, hXl, hXp, hpx⟩ := id hX
  obtain ⟨old, hHi, hHs, hho, -, -⟩ := id hH
  obtain ⟨hw, hk, hpst, hty, htxr, hrtx, hrp, hcap⟩ := id hP
  have hn := hw.n
  have hnx := hw.nx
  have hbp := hw.bp
  refine z_iload_n 1 K dX8_set_0 rfl rfl 1 rfl ?_
  refine z_bipush 3 K dX8_set_1 rfl rfl ?_
  refine z_icmp_lt (tgt := 13) 6 K dX8_set_3 rfl (by decide) (by omega) (by decide) (fun c_3 => ?_) (fun c_3 => ?_)
  · skip
    exact z_throw hne K hlt (cls := "java/lang/IllegalArgumentException") (text := "a binder can't take so many pages") (names := ["java/lang/RuntimeException", "java/lang/Exception"]) (by decide +kernel) (by decide +kernel) (by decide +kernel) (by decide +kernel) (by decide +kernel) hat1_X8_set_13 at_IA_2 at_IA_g dX8_set_13 dX8_set_16 dX8_set_17 dX8_set_19 dX8_set_22 (Nat.le_of_ble_eq_true rfl) (Nat.le_of_ble_eq_true rfl) (Nat.le_of_ble_eq_true rfl) (Nat.le_of_ble_eq_true rfl) (Nat.le_of_ble_eq_true rfl) (Nat.le_of_ble_eq_true rfl) ⟨hI0, zSame_rf _, ⟨rfl, (by unfold kSet; repeat (first | omega | split))⟩⟩
  · skip
    refine z_iload_n 7 K dX8_set_6 rfl rfl 1 rfl ?_
    refine z_sipush 10 K dX8_set_7 rfl rfl ?_
    refine z_icmp_le (tgt := 23) 13 K dX8_set_10 rfl (by decide) (by omega) (by decide) (fun c_10 => ?_) (fun c_10 => ?_)
    · skip
      exact absurd (by unfold kSet; repeat (first | omega | split)) hk9
    · skip
      exact z_throw hne K hlt (cls := "java/lang/IllegalArgumentException") (text := "a binder can't take so many pages") (names := ["java/lang/RuntimeException", "java/lang/Exception"]) (by decide +kernel) (by decide +kernel) (by decide +kernel) (by decide +kernel) (by decide +kernel) hat1_X8_set_13 at_IA_2 at_IA_g dX8_set_13 dX8_set_16 dX8_set_17 dX8_set_19 dX8_set_22 (Nat.le_of_ble_eq_true rfl) (Nat.le_of_ble_eq_true rfl) (Nat.le_of_ble_eq_true rfl) (Nat.le_of_ble_eq_true rfl) (Nat.le_of_ble_eq_true rfl) (Nat.le_of_ble_eq_true rfl) ⟨hI0, zSame_rf _, ⟨rfl, (by unfold kSet; repeat (first | omega | split))⟩⟩
set_option maxRecDepth 20000 in
theorem hin_X8_set_X1 : ∀ w ∈ wsX10, w ∈ wsX8_set := by decide +kernel
set_option maxRecDepth 20000 in
theorem hin_X8_set_X4 : ∀ w ∈ wsX40, w ∈ wsX8_set := by decide +kernel
set_option maxRecDepth 20000 in
theorem hin_X8_set_X8 : ∀ w ∈ wsX80, w ∈ wsX8_set := by decide +kernel
set_option maxHeartbeats 4000000 in
set_option maxRecDepth 100000 in
theorem a_X8_set (l : Launch) (g : zG) (C : Nat → va_E) (y : Int) (f : Int → Int) (past : Int → Int) (tx : Int → Int) (k : Int) (ty : Int) (cap : Int) (hI : IW g C f k past ty tx) (hP : PW cap f k past ty tx) (h_y : -2147483648 ≤ y ∧ y < 2147483648) (hk9 : kSet y = 0) : Met l yX8_set wsX8_set ({ frames := 4, cells := 0, slots := 0, locals := 103 } : Room) (zPre g C [.ref (aD g 0), .int (iZ y)]) (zQi g (fun z C' => IW g C' (zu f 0 y) (mKp k + 1) (mSav f past k) ty tx ∧ zSame C C' ∧ z = f 0)) 0 0 (zA g) := by
  refine z_enter RX8 rfl (by decide) rfl (Nat.le_of_ble_eq_true rfl) ?_
  intro p e s m args below meth c K harg
  refine z_sub (lv' := [(0, .ref (aD g 0)), (1, .int (iZ y))]) [0, 1] rfl ?_
  have hI0 := hI
  obtain ⟨hB, hL, hV, hT, hH, hX⟩ := hI
  obtain ⟨hMa, hSp⟩ := id hB
  obtain ⟨num, pgs, cc, cn, cp, pn, pm, ⟨hSt, hEx, hNum, hPgs, hCi, hCc, hCn, hCp, hPr, hPc, hPm⟩, hR⟩ := id hL
  obtain ⟨vb, vt, vf, lt, lo, ⟨hVw, hVb, hVt, hVf, hLe, hLo⟩, hVR⟩ := id hV
  obtain ⟨tc, np, tp, hTr, hTn, hTp, hnp⟩ := id hT
  obtain ⟨cur, stp, pl, px, hTx, hXc, hXl, hXp, hpx⟩ := id hX
  obtain ⟨old, hHi, hHs, hho, -, -⟩ := id hH
  obtain ⟨hw, hk, hpst, hty, htxr, hrtx, hrp, hcap⟩ := id hP
  have hn := hw.n
  have hnx := hw.nx
  have hbp := hw.bp
  have hq : 10 ≤ y ∧ y ≤ 200 := by
    unfold kSet at hk9
    repeat (first | omega | split at hk9)
  refine z_iload_n 1 K dX8_set_0 rfl rfl 1 rfl ?_
  refine z_bipush 3 K dX8_set_1 rfl rfl ?_
  refine z_icmp_lt (tgt := 13) 6 K dX8_set_3 rfl (by decide) (by omega) (by decide) (fun c_3 => ?_) (fun c_3 => ?_)
  · skip
    exact absurd hq (by omega)
  · skip
    refine z_iload_n 7 K dX8_set_6 rfl rfl 1 rfl ?_
    refine z_sipush 10 K dX8_set_7 rfl rfl ?_
    refine z_icmp_le (tgt := 23) 13 K dX8_set_10 rfl (by decide) (by omega) (by decide) (fun c_10 => ?_) (fun c_10 => ?_)
    · skip
      refine z_aload_n 24 K dX8_set_23 rfl rfl 0 rfl ?_
      refine z_get 27 K hin_X8_set_X8 0 (by decide) hMa rfl 3 (by decide) (by decide +kernel : Cond.fieldLink RX8 33 "BriefBuilder" "history" "LBriefBuilder$History;" ∈ wsX8_set) (fun _ h9 => h9) rfl dX8_set_24 rfl ?_
      refine z_aload_n 28 K dX8_set_27 rfl rfl 0 rfl ?_
      refine z_get 31 K hin_X8_set_X8 0 (by decide) hMa rfl 0 (by decide) (by decide +kernel : Cond.fieldLink RX8 12 "BriefBuilder" "state" "LBriefBuilder$State;" ∈ wsX8_set) (fun _ h9 => h9) rfl dX8_set_28 rfl ?_
      refine z_vVv (As := [.ref (aD g 1)]) (rest := []) 34 K 21 (by decide) hHi rfl rfl (s_X2_save l g _ f past k cap hH hL hk hw hpst) (cwV 1 K.1.2.2.2.2 gX8_set_X2_save rfl rfl rfl (by decide +kernel) ⟨Nat.le_of_ble_eq_true rfl, Nat.le_of_ble_eq_true rfl⟩) rfl (Nat.le_of_ble_eq_true rfl) dX8_set_31 rfl ⟨Nat.le_of_ble_eq_true rfl, Nat.le_of_ble_eq_true rfl⟩ rfl (fun C_2 hp_31 => ?_)
      obtain ⟨hHn_31, hsm_31⟩ := hp_31
      have hf_31_0 : C_2 0 = .inr (8, [.ref (aD g 1), .ref (aD g 12), .ref (aD g 18), .ref (aD g 21), .ref (aD g 23), .ref (aD g 27)]) := (hsm_31 0 (by omega)).trans hMa
      have hf_31_27 : C_2 27 = eI g 30 (fun k => k) := (hsm_31 27 (by omega)).trans hSp
      have hf_31_1 : C_2 1 = .inr (4, [.ref (aD g 2), .ref (aD g 5), .ref (aD g 9)]) := (hsm_31 1 (by omega)).trans hSt
      have hf_31_2 : C_2 2 = .inr (1, [.ref (aD g 3), .ref (aD g 4), .int (iZ (f 1)), .int (iZ (f 2)), .int (iZ (f 0))]) := (hsm_31 2 (by omega)).trans hEx
      have hf_31_3 : C_2 3 = eI g 30 num := (hsm_31 3 (by omega)).trans hNum
      have hf_31_4 : C_2 4 = eI g 30 pgs := (hsm_31 4 (by omega)).trans hPgs
      have hf_31_5 : C_2 5 = .inr (0, [.ref (aD g 6), .ref (aD g 7), .ref (aD g 8)]) := (hsm_31 5 (by omega)).trans hCi
      have hf_31_6 : C_2 6 = eI g 12 cc := (hsm_31 6 (by omega)).trans hCc
      have hf_31_7 : C_2 7 = eI g 72 cn := (hsm_31 7 (by omega)).trans hCn
      have hf_31_8 : C_2 8 = eI g 72 cp := (hsm_31 8 (by omega)).trans hCp
      have hf_31_9 : C_2 9 = .inr (3, [.ref (aD g 10), .ref (aD g 11)]) := (hsm_31 9 (by omega)).trans hPr
      have hf_31_10 : C_2 10 = eI g 12 pn := (hsm_31 10 (by omega)).trans hPc
      have hf_31_11 : C_2 11 = eI g 72 pm := (hsm_31 11 (by omega)).trans hPm
      have hf_31_12 : C_2 12 = .inr (7, [.ref (aD g 13), .ref (aD g 14), .ref (aD g 15), .ref (aD g 16), .ref (aD g 17), .int (iZ (sBds f))]) := (hsm_31 12 (by omega)).trans hVw
      have hf_31_13 : C_2 13 = eI g 30 vb := (hsm_31 13 (by omega)).trans hVb
      have hf_31_14 : C_2 14 = eI g 30 vt := (hsm_31 14 (by omega)).trans hVt
      have hf_31_15 : C_2 15 = eI g 30 vf := (hsm_31 15 (by omega)).trans hVf
      have hf_31_16 : C_2 16 = eI g 72 lt := (hsm_31 16 (by omega)).trans hLe
      have hf_31_17 : C_2 17 = eZ g 72 lo := (hsm_31 17 (by omega)).trans hLo
      have hf_31_18 : C_2 18 = .inr (6, [.ref (aD g 19), .ref (aD g 20), .int (iZ tc)]) := (hsm_31 18 (by omega)).trans hTr
      have hf_31_19 : C_2 19 = eI g 30 np := (hsm_31 19 (by omega)).trans hTn
      have hf_31_20 : C_2 20 = eI g 31 tp := (hsm_31 20 (by omega)).trans hTp
      have hf_31_22 : C_2 22 = eS g 6 (fun k => some (aD g (28 + 11 * k))) := (hsm_31 22 (by omega)).trans hHs
      have hf_31_23 : C_2 23 = .inr (5, [.ref (aD g 24), .int (iZ ty), .ref (aD g 25), .ref (aD g 26), .int (iZ cur), .int (iZ stp)]) := (hsm_31 23 (by omega)).trans hTx
      have hf_31_24 : C_2 24 = eI g 60 tx := (hsm_31 24 (by omega)).trans hXc
      have hf_31_25 : C_2 25 = eI g 6 pl := (hsm_31 25 (by omega)).trans hXl
      have hf_31_26 : C_2 26 = eI g 6 px := (hsm_31 26 (by omega)).trans hXp
      have hB2 := wB_cong hB (fun q hq => hsm_31 q (by omega))
      have hT2 := wT_cong hT (fun q hq => hsm_31 q (by omega))
      have hX2 := wX_cong hX (fun q hq => hsm_31 q (by omega))
      refine z_aload_n 35 K dX8_set_34 rfl rfl 0 rfl ?_
      refine z_get 38 K hin_X8_set_X8 0 (by decide) hf_31_0 rfl 0 (by decide) (by decide +kernel : Cond.fieldLink RX8 12 "BriefBuilder" "state" "LBriefBuilder$State;" ∈ wsX8_set) (fun _ h9 => h9) rfl dX8_set_35 rfl ?_
      refine z_get 41 K hin_X8_set_X4 1 (by decide) hf_31_1 rfl 0 (by decide) (by decide +kernel : Cond.fieldLink RX8 48 "BriefBuilder$State" "exhibits" "LBriefBuilder$Exhibits;" ∈ wsX8_set) (fun _ h9 => h9) rfl dX8_set_38 rfl ?_
      refine z_get 44 K hin_X8_set_X1 2 (by decide) hf_31_2 rfl 4 (by decide) (by decide +kernel : Cond.fieldLink RX8 174 "BriefBuilder$Exhibits" "binderPages" "I" ∈ wsX8_set) (fun _ h9 => h9) rfl dX8_set_41 rfl ?_
      refine z_istore_n (lv' := [(2, .int (iZ (f 0))), (0, .ref (aD g 0)), (1, .int (iZ y))]) 45 K dX8_set_44 rfl rfl (by decide) rfl ?_
      refine z_aload_n 46 K dX8_set_45 rfl rfl 1 rfl ?_
      refine z_get 49 K hin_X8_set_X8 0 (by decide) hf_31_0 rfl 0 (by decide) (by decide +kernel : Cond.fieldLink RX8 12 "BriefBuilder" "state" "LBriefBuilder$State;" ∈ wsX8_set) (fun _ h9 => h9) rfl dX8_set_46 rfl ?_
      refine z_get 52 K hin_X8_set_X4 1 (by decide) hf_31_1 rfl 0 (by decide) (by decide +kernel : Cond.fieldLink RX8 48 "BriefBuilder$State" "exhibits" "LBriefBuilder$Exhibits;" ∈ wsX8_set) (fun _ h9 => h9) rfl dX8_set_49 rfl ?_
      refine z_iload_n 53 K dX8_set_52 rfl rfl 2 rfl ?_
      refine z_put (ty := .int) 56 K hin_X8_set_X1 tyX1 tyX1_ok nmX1 2 (by decide) hf_31_2 rfl 4 (by decide) (by decide +kernel : Cond.fieldLink RX8 174 "BriefBuilder$Exhibits" "binderPages" "I" ∈ wsX8_set) (fun _ h9 => h9) rfl (by decide +kernel) rfl rfl (Nat.le_of_ble_eq_true rfl) dX8_set_53 rfl ?_
      show Z p l e (({ frames := 4, cells := 0, slots := 0, locals := 103 } : Room)) s m args below meth c (MQ below (zQi g (fun z C' => IW g C' (zu f 0 y) (mKp k + 1) (mSav f past k) ty tx ∧ zSame C C' ∧ z = f 0)) args s 0 0 (zA g)) g _ _ _ (va_up C_2 2 (.inr (1, [.ref (aD g 3), .ref (aD g 4), .int (iZ (f 1)), .int (iZ (f 2)), .int (iZ y)]))) [(2, .int (iZ (f 0))), (0, .ref (aD g 0)), (1, .int (iZ y))] 56 []
      refine z_aload_n 57 K dX8_set_56 rfl rfl 1 rfl ?_
      refine z_get 60 K hin_X8_set_X8 0 (by decide) ((va_up_ne _ _ (by decide)).trans hf_31_0) rfl 1 (by decide) (by decide +kernel : Cond.fieldLink RX8 19 "BriefBuilder" "view" "LBriefBuilder$View;" ∈ wsX8_set) (fun _ h9 => h9) rfl dX8_set_57 rfl ?_
      refine z_aload_n 61 K dX8_set_60 rfl rfl 1 rfl ?_
      refine z_get 64 K hin_X8_set_X8 0 (by decide) ((va_up_ne _ _ (by decide)).trans hf_31_0) rfl 0 (by decide) (by decide +kernel : Cond.fieldLink RX8 12 "BriefBuilder" "state" "LBriefBuilder$State;" ∈ wsX8_set) (fun _ h9 => h9) rfl dX8_set_61 rfl ?_
      have hw2 : WF (zu f 0 y) (cap) := WF_set hw (by omega)
      have hR2 : RS (zu f 0 y) num pgs cc cn cp pn pm := RS_lo hR (Or.inl rfl)
      have e1 : f 1 = (zu f 0 y) 1 := (zu_ne _ _ (by omega)).symm
      have e2 : f 2 = (zu f 0 y) 2 := (zu_ne _ _ (by omega)).symm
      have e3 : y = (zu f 0 y) 0 := (zu_eq _ _ _).symm
      have hpg2 : ∀ j, 0 ≤ j → j < f 1 → 0 ≤ pgs j ∧ pgs j ≤ 60 := by
        intro j j0 j1
        rw [e1] at j1
        exact hR2.hpg hw2 j j0 j1
      have hbp2 := hw2.bp
      have hn2 := hw2.n
      refine z_vVv (As := [.ref (aD g 1)]) (rest := []) 67 K 12 (by decide) ((va_up_ne _ _ (by decide)).trans hf_31_12) rfl rfl (m_X7_follow l g _ (sBds f) vb vt vf lt lo (f 1) (f 2) y num pgs cc cn cp ((va_up_ne _ _ (by decide)).trans hf_31_12) ((va_up_ne _ _ (by decide)).trans hf_31_13) ((va_up_ne _ _ (by decide)).trans hf_31_14) ((va_up_ne _ _ (by decide)).trans hf_31_15) ((va_up_ne _ _ (by decide)).trans hf_31_16) ((va_up_ne _ _ (by decide)).trans hf_31_17) ((va_up_ne _ _ (by decide)).trans hf_31_1) (va_up_eq _ 2 _) ((va_up_ne _ _ (by decide)).trans hf_31_3) ((va_up_ne _ _ (by decide)).trans hf_31_4) ((va_up_ne _ _ (by decide)).trans hf_31_5) ((va_up_ne _ _ (by decide)).trans hf_31_6) ((va_up_ne _ _ (by decide)).trans hf_31_7) ((va_up_ne _ _ (by decide)).trans hf_31_8) (by omega) (by omega) hpg2 (hR2.hcc hw2) hVR.2.2.1 hVR.2.2.2 hR2.r1 hR2.r2 (hR2.hcp hw2)) (cwV 1 K.1.2.2.2.2 gX8_set_X7_follow rfl rfl rfl (by decide +kernel) ⟨Nat.le_of_ble_eq_true rfl, Nat.le_of_ble_eq_true rfl⟩) rfl (Nat.le_of_ble_eq_true rfl) dX8_set_64 rfl ⟨Nat.le_of_ble_eq_true rfl, Nat.le_of_ble_eq_true rfl⟩ rfl (fun C_4 hp_64 => ?_)
      obtain ⟨w13_5, w14_6, w15_7, w16_8, w17_9, hC_64, hvf_64, hcf_64, hl16_64, hl17_64⟩ := hp_64
      refine z_C hC_64 ?_
      refine z_iload_n 68 K dX8_set_67 rfl rfl 0 rfl ?_
      exact z_iret K rfl dX8_set_68 ⟨IW_mk hB2 hT2 hX2 hHn_31 (fun q hq => ((va_up_ne _ _ (by omega)).trans ((va_up_ne _ _ (by omega)).trans ((va_up_ne _ _ (by omega)).trans ((va_up_ne _ _ (by omega)).trans ((va_up_ne _ _ (by omega)).trans ((va_up_ne _ _ (by omega)).trans ((va_up_ne _ _ (by omega)).trans rfl)))))))) ⟨((va_up_ne _ _ (by decide)).trans ((va_up_ne _ _ (by decide)).trans ((va_up_ne _ _ (by decide)).trans ((va_up_ne _ _ (by decide)).trans ((va_up_ne _ _ (by decide)).trans ((va_up_ne _ _ (by decide)).trans ((va_up_ne _ _ (by decide)).trans hf_31_1))))))), ((va_up_ne _ _ (by decide)).trans ((va_up_ne _ _ (by decide)).trans ((va_up_ne _ _ (by decide)).trans ((va_up_ne _ _ (by decide)).trans ((va_up_ne _ _ (by decide)).trans ((va_up_ne _ _ (by decide)).trans (va_up_eq _ 2 _))))))), ((va_up_ne _ _ (by decide)).trans ((va_up_ne _ _ (by decide)).trans ((va_up_ne _ _ (by decide)).trans ((va_up_ne _ _ (by decide)).trans ((va_up_ne _ _ (by decide)).trans ((va_up_ne _ _ (by decide)).trans ((va_up_ne _ _ (by decide)).trans hf_31_3))))))), ((va_up_ne _ _ (by decide)).trans ((va_up_ne _ _ (by decide)).trans ((va_up_ne _ _ (by decide)).trans ((va_up_ne _ _ (by decide)).trans ((va_up_ne _ _ (by decide)).trans ((va_up_ne _ _ (by decide)).trans ((va_up_ne _ _ (by decide)).trans hf_31_4))))))), ((va_up_ne _ _ (by decide)).trans ((va_up_ne _ _ (by decide)).trans ((va_up_ne _ _ (by decide)).trans ((va_up_ne _ _ (by decide)).trans ((va_up_ne _ _ (by decide)).trans ((va_up_ne _ _ (by decide)).trans ((va_up_ne _ _ (by decide)).trans hf_31_5))))))), ((va_up_ne _ _ (by decide)).trans ((va_up_ne _ _ (by decide)).trans ((va_up_ne _ _ (by decide)).trans ((va_up_ne _ _ (by decide)).trans ((va_up_ne _ _ (by decide)).trans ((va_up_ne _ _ (by decide)).trans ((va_up_ne _ _ (by decide)).trans hf_31_6))))))), ((va_up_ne _ _ (by decide)).trans ((va_up_ne _ _ (by decide)).trans ((va_up_ne _ _ (by decide)).trans ((va_up_ne _ _ (by decide)).trans ((va_up_ne _ _ (by decide)).trans ((va_up_ne _ _ (by decide)).trans ((va_up_ne _ _ (by decide)).trans hf_31_7))))))), ((va_up_ne _ _ (by decide)).trans ((va_up_ne _ _ (by decide)).trans ((va_up_ne _ _ (by decide)).trans ((va_up_ne _ _ (by decide)).trans ((va_up_ne _ _ (by decide)).trans ((va_up_ne _ _ (by decide)).trans ((va_up_ne _ _ (by decide)).trans hf_31_8))))))), ((va_up_ne _ _ (by decide)).trans ((va_up_ne _ _ (by decide)).trans ((va_up_ne _ _ (by decide)).trans ((va_up_ne _ _ (by decide)).trans ((va_up_ne _ _ (by decide)).trans ((va_up_ne _ _ (by decide)).trans ((va_up_ne _ _ (by decide)).trans hf_31_9))))))), ((va_up_ne _ _ (by decide)).trans ((va_up_ne _ _ (by decide)).trans ((va_up_ne _ _ (by decide)).trans ((va_up_ne _ _ (by decide)).trans ((va_up_ne _ _ (by decide)).trans ((va_up_ne _ _ (by decide)).trans ((va_up_ne _ _ (by decide)).trans hf_31_10))))))), ((va_up_ne _ _ (by decide)).trans ((va_up_ne _ _ (by decide)).trans ((va_up_ne _ _ (by decide)).trans ((va_up_ne _ _ (by decide)).trans ((va_up_ne _ _ (by decide)).trans ((va_up_ne _ _ (by decide)).trans ((va_up_ne _ _ (by decide)).trans hf_31_11)))))))⟩ e1 e2 e3 hR2 hw2 ⟨((va_up_ne _ _ (by decide)).trans ((va_up_ne _ _ (by decide)).trans (va_up_eq _ 12 _))), ((va_up_ne _ _ (by decide)).trans ((va_up_ne _ _ (by decide)).trans ((va_up_ne _ _ (by decide)).trans ((va_up_ne _ _ (by decide)).trans ((va_up_ne _ _ (by decide)).trans (va_up_eq _ 13 _)))))), ((va_up_ne _ _ (by decide)).trans ((va_up_ne _ _ (by decide)).trans ((va_up_ne _ _ (by decide)).trans ((va_up_ne _ _ (by decide)).trans (va_up_eq _ 14 _))))), ((va_up_ne _ _ (by decide)).trans ((va_up_ne _ _ (by decide)).trans ((va_up_ne _ _ (by decide)).trans (va_up_eq _ 15 _)))), ((va_up_ne _ _ (by decide)).trans (va_up_eq _ 16 _)), (va_up_eq _ 17 _)⟩ rfl hvf_64 hcf_64 hl16_64 hl17_64, fun q hq => (((va_up_ne _ _ (by omega)).trans ((va_up_ne _ _ (by omega)).trans ((va_up_ne _ _ (by omega)).trans ((va_up_ne _ _ (by omega)).trans ((va_up_ne _ _ (by omega)).trans ((va_up_ne _ _ (by omega)).trans ((va_up_ne _ _ (by omega)).trans rfl)))))))).trans (hsm_31 q (by omega)), rfl⟩
    · skip
      exact absurd hq (by omega)
set_option maxHeartbeats 4000000 in
set_option maxRecDepth 100000 in
theorem x_X8_drop (l : Launch) (g : zG) (C : Nat → va_E) (p0 : Int) (f : Int → Int) (past : Int → Int) (tx : Int → Int) (k : Int) (ty : Int) (cap : Int) (hI : IW g C f k past ty tx) (hP : PW cap f k past ty tx) (h_p0 : -2147483648 ≤ p0 ∧ p0 < 2147483648) (hk9 : kPl f p0 ≠ 0) (hlt : l.stackTraces = false) : vx_Met l yX8_drop wsX8_drop ({ frames := 7, cells := 1, slots := 6, locals := 103 } : Room) (zPre g C [.ref (aD g 0), .int (iZ p0)]) (zQi g (fun z C' => False)) (zX g (fun E C' => IW g C' f k past ty tx ∧ zSame C C' ∧ ((E = "java/lang/IndexOutOfBoundsException" ∧ kPl f p0 = 1)))) 1 6 (zA g) := by
  refine z_enterX RX8 rfl (by decide) rfl (Nat.le_of_ble_eq_true rfl) ?_
  intro p e s m args below meth c K harg hne
  refine z_sub (lv' := [(0, .ref (aD g 0)), (1, .int (iZ p0))]) [0, 1] rfl ?_
  have hI0 := hI
  obtain ⟨hB, hL, hV, hT, hH, hX⟩ := hI
  obtain ⟨hMa, hSp⟩ := id hB
  obtain ⟨num, pgs, cc, cn, cp, pn, pm, ⟨hSt, hEx, hNum, hPgs, hCi, hCc, hCn, hCp, hPr, hPc, hPm⟩, hR⟩ := id hL
  obtain ⟨vb, vt, vf, lt, lo, ⟨hVw, hVb, hVt, hVf, hLe, hLo⟩, hVR⟩ := id hV
  obtain ⟨tc, np, tp, hTr, hTn, hTp, hnp⟩ := id hT
  obtain ⟨cur, stp, pl, px, hTx, hXc, hXl, hXp, hpx⟩ := id hX
  obtain ⟨old, hHi, hHs, hho, -, -⟩ := id hH
  obtain ⟨hw, hk, hpst, hty, htxr, hrtx, hrp, hcap⟩ := id hP
  have hn := hw.n
  have hnx := hw.nx
  have hbp := hw.bp
  refine z_aload_n 1 K dX8_drop_0 rfl rfl 0 rfl ?_
  refine z_iload_n 2 K dX8_drop_1 rfl rfl 1 rfl ?_
  refine z_xVv (As := [.int (iZ p0)]) (rest := []) 5 K 0 (by decide) hMa rfl rfl (m_X8_checkPlace l g _ p0 (f 1) (f 2) (f 0) hMa hSt hEx (by omega) (by omega) hlt) (cwV 1 K.1.2.2.2.2 gX8_drop_X8_checkPlace rfl rfl rfl (by decide +kernel) ⟨Nat.le_of_ble_eq_true rfl, Nat.le_of_ble_eq_true rfl⟩) rfl (Nat.le_of_ble_eq_true rfl) dX8_drop_2 rfl ⟨Nat.le_of_ble_eq_true rfl, Nat.le_of_ble_eq_true rfl⟩ rfl (fun E9 C9 hx9 => ?_) (fun C_2 hp_2 => ?_)
  · obtain ⟨hE9, rfl, hx9⟩ := hx9
    exact z_out hne K (Nat.le_of_ble_eq_true rfl) (Nat.le_of_ble_eq_true rfl) ⟨hI0, zSame_rf _, ⟨hE9, (by unfold kPl; repeat (first | omega | split))⟩⟩
  obtain ⟨hC_2, hc_2⟩ := hp_2
  refine z_C hC_2 ?_
  exact absurd (by unfold kPl; repeat (first | omega | split)) hk9
set_option maxRecDepth 20000 in
theorem hin_X8_drop_X4 : ∀ w ∈ wsX40, w ∈ wsX8_drop := by decide +kernel
set_option maxRecDepth 20000 in
theorem hin_X8_drop_X8 : ∀ w ∈ wsX80, w ∈ wsX8_drop := by decide +kernel
set_option maxHeartbeats 4000000 in
set_option maxRecDepth 100000 in
theorem a_X8_drop (l : Launch) (g : zG) (C : Nat → va_E) (p0 : Int) (f : Int → Int) (past : Int → Int) (tx : Int → Int) (k : Int) (ty : Int) (cap : Int) (hI : IW g C f k past ty tx) (hP : PW cap f k past ty tx) (h_p0 : -2147483648 ≤ p0 ∧ p0 < 2147483648) (hk9 : kPl f p0 = 0) : Met l yX8_drop wsX8_drop ({ frames := 4, cells := 0, slots := 0, locals := 103 } : Room) (zPre g C [.ref (aD g 0), .int (iZ p0)]) (zQi g (fun z C' => IW g C' (mOut f p0) (mKp k + 1) (mSav f past k) ty tx ∧ zSame C C' ∧ z = sAllLost (mOut f p0) - sAllLost f)) 0 0 (zA g) := by
  refine z_enter RX8 rfl (by decide) rfl (Nat.le_of_ble_eq_true rfl) ?_
  intro p e s m args below meth c K harg
  refine z_sub (lv' := [(0, .ref (aD g 0)), (1, .int (iZ p0))]) [0, 1] rfl ?_
  have hI0 := hI
  obtain ⟨hB, hL, hV, hT, hH, hX⟩ := hI
  obtain ⟨hMa, hSp⟩ := id hB
  obtain ⟨num, pgs, cc, cn, cp, pn, pm, ⟨hSt, hEx, hNum, hPgs, hCi, hCc, hCn, hCp, hPr, hPc, hPm⟩, hR⟩ := id hL
  obtain ⟨vb, vt, vf, lt, lo, ⟨hVw, hVb, hVt, hVf, hLe, hLo⟩, hVR⟩ := id hV
  obtain ⟨tc, np, tp, hTr, hTn, hTp, hnp⟩ := id hT
  obtain ⟨cur, stp, pl, px, hTx, hXc, hXl, hXp, hpx⟩ := id hX
  obtain ⟨old, hHi, hHs, hho, -, -⟩ := id hH
  obtain ⟨hw, hk, hpst, hty, htxr, hrtx, hrp, hcap⟩ := id hP
  have hn := hw.n
  have hnx := hw.nx
  have hbp := hw.bp
  have hq : 0 ≤ p0 ∧ p0 < f 1 := by
    unfold kPl at hk9
    repeat (first | omega | split at hk9)
  refine z_aload_n 1 K dX8_drop_0 rfl rfl 0 rfl ?_
  refine z_iload_n 2 K dX8_drop_1 rfl rfl 1 rfl ?_
  refine z_vVv (As := [.int (iZ p0)]) (rest := []) 5 K 0 (by decide) hMa rfl rfl (n_X8_checkPlace l g _ p0 (f 1) (f 2) (f 0) hMa hSt hEx (by omega) (by omega) (by omega)) (cwV 1 K.1.2.2.2.2 gX8_drop_X8_checkPlace rfl rfl rfl (by decide +kernel) ⟨Nat.le_of_ble_eq_true rfl, Nat.le_of_ble_eq_true rfl⟩) rfl (Nat.le_of_ble_eq_true rfl) dX8_drop_2 rfl ⟨Nat.le_of_ble_eq_true rfl, Nat.le_of_ble_eq_true rfl⟩ rfl (fun C_2 hp_2 => ?_)
  refine z_C hp_2 ?_
  refine z_aload_n 6 K dX8_drop_5 rfl rfl 0 rfl ?_
  refine z_get 9 K hin_X8_drop_X8 0 (by decide) hMa rfl 3 (by decide) (by decide +kernel : Cond.fieldLink RX8 33 "BriefBuilder" "history" "LBriefBuilder$History;" ∈ wsX8_drop) (fun _ h9 => h9) rfl dX8_drop_6 rfl ?_
  refine z_aload_n 10 K dX8_drop_9 rfl rfl 0 rfl ?_
  refine z_get 13 K hin_X8_drop_X8 0 (by decide) hMa rfl 0 (by decide) (by decide +kernel : Cond.fieldLink RX8 12 "BriefBuilder" "state" "LBriefBuilder$State;" ∈ wsX8_drop) (fun _ h9 => h9) rfl dX8_drop_10 rfl ?_
  refine z_vVv (As := [.ref (aD g 1)]) (rest := []) 16 K 21 (by decide) hHi rfl rfl (s_X2_save l g _ f past k cap hH hL hk hw hpst) (cwV 1 K.1.2.2.2.2 gX8_drop_X2_save rfl rfl rfl (by decide +kernel) ⟨Nat.le_of_ble_eq_true rfl, Nat.le_of_ble_eq_true rfl⟩) rfl (Nat.le_of_ble_eq_true rfl) dX8_drop_13 rfl ⟨Nat.le_of_ble_eq_true rfl, Nat.le_of_ble_eq_true rfl⟩ rfl (fun C_4 hp_13 => ?_)
  obtain ⟨hHn_13, hsm_13⟩ := hp_13
  have hf_13_0 : C_4 0 = .inr (8, [.ref (aD g 1), .ref (aD g 12), .ref (aD g 18), .ref (aD g 21), .ref (aD g 23), .ref (aD g 27)]) := (hsm_13 0 (by omega)).trans hMa
  have hf_13_27 : C_4 27 = eI g 30 (fun k => k) := (hsm_13 27 (by omega)).trans hSp
  have hf_13_1 : C_4 1 = .inr (4, [.ref (aD g 2), .ref (aD g 5), .ref (aD g 9)]) := (hsm_13 1 (by omega)).trans hSt
  have hf_13_2 : C_4 2 = .inr (1, [.ref (aD g 3), .ref (aD g 4), .int (iZ (f 1)), .int (iZ (f 2)), .int (iZ (f 0))]) := (hsm_13 2 (by omega)).trans hEx
  have hf_13_3 : C_4 3 = eI g 30 num := (hsm_13 3 (by omega)).trans hNum
  have hf_13_4 : C_4 4 = eI g 30 pgs := (hsm_13 4 (by omega)).trans hPgs
  have hf_13_5 : C_4 5 = .inr (0, [.ref (aD g 6), .ref (aD g 7), .ref (aD g 8)]) := (hsm_13 5 (by omega)).trans hCi
  have hf_13_6 : C_4 6 = eI g 12 cc := (hsm_13 6 (by omega)).trans hCc
  have hf_13_7 : C_4 7 = eI g 72 cn := (hsm_13 7 (by omega)).trans hCn
  have hf_13_8 : C_4 8 = eI g 72 cp := (hsm_13 8 (by omega)).trans hCp
  have hf_13_9 : C_4 9 = .inr (3, [.ref (aD g 10), .ref (aD g 11)]) := (hsm_13 9 (by omega)).trans hPr
  have hf_13_10 : C_4 10 = eI g 12 pn := (hsm_13 10 (by omega)).trans hPc
  have hf_13_11 : C_4 11 = eI g 72 pm := (hsm_13 11 (by omega)).trans hPm
  have hf_13_12 : C_4 12 = .inr (7, [.ref (aD g 13), .ref (aD g 14), .ref (aD g 15), .ref (aD g 16), .ref (aD g 17), .int (iZ (sBds f))]) := (hsm_13 12 (by omega)).trans hVw
  have hf_13_13 : C_4 13 = eI g 30 vb := (hsm_13 13 (by omega)).trans hVb
  have hf_13_14 : C_4 14 = eI g 30 vt := (hsm_13 14 (by omega)).trans hVt
  have hf_13_15 : C_4 15 = eI g 30 vf := (hsm_13 15 (by omega)).trans hVf
  have hf_13_16 : C_4 16 = eI g 72 lt := (hsm_13 16 (by omega)).trans hLe
  have hf_13_17 : C_4 17 = eZ g 72 lo := (hsm_13 17 (by omega)).trans hLo
  have hf_13_18 : C_4 18 = .inr (6, [.ref (aD g 19), .ref (aD g 20), .int (iZ tc)]) := (hsm_13 18 (by omega)).trans hTr
  have hf_13_19 : C_4 19 = eI g 30 np := (hsm_13 19 (by omega)).trans hTn
  have hf_13_20 : C_4 20 = eI g 31 tp := (hsm_13 20 (by omega)).trans hTp
  have hf_13_22 : C_4 22 = eS g 6 (fun k => some (aD g (28 + 11 * k))) := (hsm_13 22 (by omega)).trans hHs
  have hf_13_23 : C_4 23 = .inr (5, [.ref (aD g 24), .int (iZ ty), .ref (aD g 25), .ref (aD g 26), .int (iZ cur), .int (iZ stp)]) := (hsm_13 23 (by omega)).trans hTx
  have hf_13_24 : C_4 24 = eI g 60 tx := (hsm_13 24 (by omega)).trans hXc
  have hf_13_25 : C_4 25 = eI g 6 pl := (hsm_13 25 (by omega)).trans hXl
  have hf_13_26 : C_4 26 = eI g 6 px := (hsm_13 26 (by omega)).trans hXp
  have hB2 := wB_cong hB (fun q hq => hsm_13 q (by omega))
  have hT2 := wT_cong hT (fun q hq => hsm_13 q (by omega))
  have hX2 := wX_cong hX (fun q hq => hsm_13 q (by omega))
  refine z_aload_n 17 K dX8_drop_16 rfl rfl 0 rfl ?_
  refine z_iload_n 18 K dX8_drop_17 rfl rfl 1 rfl ?_
  refine z_vVi (As := [.int (iZ p0)]) (rest := []) 21 K 0 (by decide) hf_13_0 rfl rfl (m_X8_goodCitationsOf l g _ p0 cc (sBds f) lt lo hf_13_0 hf_13_1 hf_13_5 hf_13_6 hf_13_12 hf_13_16 hf_13_17 (hR.hcc hw) hVR.2.2.1 hVR.2.2.2 (by omega)) (cwV 1 K.1.2.2.2.2 gX8_drop_X8_goodCitationsOf rfl rfl rfl (by decide +kernel) ⟨Nat.le_of_ble_eq_true rfl, Nat.le_of_ble_eq_true rfl⟩) rfl (Nat.le_of_ble_eq_true rfl) dX8_drop_18 rfl ⟨Nat.le_of_ble_eq_true rfl, Nat.le_of_ble_eq_true rfl⟩ rfl (fun z_5 C_6 hp_18 => ?_)
  refine z_C hp_18.1 ?_
  refine z_top (iGo cc lt lo p0) hp_18.2 ?_
  refine z_istore_n (lv' := [(2, .int (iZ (iGo cc lt lo p0))), (0, .ref (aD g 0)), (1, .int (iZ p0))]) 22 K dX8_drop_21 rfl rfl (by decide) rfl ?_
  refine z_aload_n 23 K dX8_drop_22 rfl rfl 1 rfl ?_
  refine z_get 26 K hin_X8_drop_X8 0 (by decide) hf_13_0 rfl 0 (by decide) (by decide +kernel : Cond.fieldLink RX8 12 "BriefBuilder" "state" "LBriefBuilder$State;" ∈ wsX8_drop) (fun _ h9 => h9) rfl dX8_drop_23 rfl ?_
  refine z_get 29 K hin_X8_drop_X4 1 (by decide) hf_13_1 rfl 0 (by decide) (by decide +kernel : Cond.fieldLink RX8 48 "BriefBuilder$State" "exhibits" "LBriefBuilder$Exhibits;" ∈ wsX8_drop) (fun _ h9 => h9) rfl dX8_drop_26 rfl ?_
  refine z_iload_n 30 K dX8_drop_29 rfl rfl 2 rfl ?_
  refine z_vVv (As := [.int (iZ p0)]) (rest := []) 33 K 2 (by decide) hf_13_2 rfl rfl (m_X1_takeOut l g _ p0 (f 1) (f 2) (f 0) num pgs hf_13_2 hf_13_3 hf_13_4 (by omega) (by omega)) (cwV 1 K.1.2.2.2.2 gX8_drop_X1_takeOut rfl rfl rfl (by decide +kernel) ⟨Nat.le_of_ble_eq_true rfl, Nat.le_of_ble_eq_true rfl⟩) rfl (Nat.le_of_ble_eq_true rfl) dX8_drop_30 rfl ⟨Nat.le_of_ble_eq_true rfl, Nat.le_of_ble_eq_true rfl⟩ rfl (fun C_8 hp_30 => ?_)
  refine z_C hp_30 ?_
  refine z_aload_n 34 K dX8_drop_33 rfl rfl 1 rfl ?_
  refine z_get 37 K hin_X8_drop_X8 0 (by decide) ((va_up_ne _ _ (by decide)).trans ((va_up_ne _ _ (by decide)).trans ((va_up_ne _ _ (by decide)).trans hf_13_0))) rfl 1 (by decide) (by decide +kernel : Cond.fieldLink RX8 19 "BriefBuilder" "view" "LBriefBuilder$View;" ∈ wsX8_drop) (fun _ h9 => h9) rfl dX8_drop_34 rfl ?_
  refine z_aload_n 38 K dX8_drop_37 rfl rfl 1 rfl ?_
  refine z_get 41 K hin_X8_drop_X8 0 (by decide) ((va_up_ne _ _ (by decide)).trans ((va_up_ne _ _ (by decide)).trans ((va_up_ne _ _ (by decide)).trans hf_13_0))) rfl 0 (by decide) (by decide +kernel : Cond.fieldLink RX8 12 "BriefBuilder" "state" "LBriefBuilder$State;" ∈ wsX8_drop) (fun _ h9 => h9) rfl dX8_drop_38 rfl ?_
  have hw2 : WF (mOut f p0) (cap) := WF_out hw (by omega)
  have hR2 : RS (mOut f p0) (zOut num (f 1) p0) (zOut pgs (f 1) p0) cc cn cp pn pm := RS_out hR (by omega) (by omega)
  have e1 : f 1 - 1 = (mOut f p0) 1 := (mOut_012 f (by omega)).1.symm
  have e2 : f 2 = (mOut f p0) 2 := (mOut_012 f (by omega)).2.1.symm
  have e3 : f 0 = (mOut f p0) 0 := (mOut_012 f (by omega)).2.2.symm
  have hpg2 : ∀ j, 0 ≤ j → j < f 1 - 1 → 0 ≤ (zOut pgs (f 1) p0) j ∧ (zOut pgs (f 1) p0) j ≤ 60 := by
    intro j j0 j1
    rw [e1] at j1
    exact hR2.hpg hw2 j j0 j1
  have hbp2 := hw2.bp
  have hn2 := hw2.n
  refine z_vVv (As := [.ref (aD g 1)]) (rest := []) 44 K 12 (by decide) ((va_up_ne _ _ (by decide)).trans ((va_up_ne _ _ (by decide)).trans ((va_up_ne _ _ (by decide)).trans hf_13_12))) rfl rfl (m_X7_follow l g _ (sBds f) vb vt vf lt lo (f 1 - 1) (f 2) (f 0) (zOut num (f 1) p0) (zOut pgs (f 1) p0) cc cn cp ((va_up_ne _ _ (by decide)).trans ((va_up_ne _ _ (by decide)).trans ((va_up_ne _ _ (by decide)).trans hf_13_12))) ((va_up_ne _ _ (by decide)).trans ((va_up_ne _ _ (by decide)).trans ((va_up_ne _ _ (by decide)).trans hf_13_13))) ((va_up_ne _ _ (by decide)).trans ((va_up_ne _ _ (by decide)).trans ((va_up_ne _ _ (by decide)).trans hf_13_14))) ((va_up_ne _ _ (by decide)).trans ((va_up_ne _ _ (by decide)).trans ((va_up_ne _ _ (by decide)).trans hf_13_15))) ((va_up_ne _ _ (by decide)).trans ((va_up_ne _ _ (by decide)).trans ((va_up_ne _ _ (by decide)).trans hf_13_16))) ((va_up_ne _ _ (by decide)).trans ((va_up_ne _ _ (by decide)).trans ((va_up_ne _ _ (by decide)).trans hf_13_17))) ((va_up_ne _ _ (by decide)).trans ((va_up_ne _ _ (by decide)).trans ((va_up_ne _ _ (by decide)).trans hf_13_1))) ((va_up_ne _ _ (by decide)).trans ((va_up_ne _ _ (by decide)).trans (va_up_eq _ 2 _))) ((va_up_ne _ _ (by decide)).trans (va_up_eq _ 3 _)) (va_up_eq _ 4 _) ((va_up_ne _ _ (by decide)).trans ((va_up_ne _ _ (by decide)).trans ((va_up_ne _ _ (by decide)).trans hf_13_5))) ((va_up_ne _ _ (by decide)).trans ((va_up_ne _ _ (by decide)).trans ((va_up_ne _ _ (by decide)).trans hf_13_6))) ((va_up_ne _ _ (by decide)).trans ((va_up_ne _ _ (by decide)).trans ((va_up_ne _ _ (by decide)).trans hf_13_7))) ((va_up_ne _ _ (by decide)).trans ((va_up_ne _ _ (by decide)).trans ((va_up_ne _ _ (by decide)).trans hf_13_8))) (by omega) (by omega) hpg2 (hR2.hcc hw2) hVR.2.2.1 hVR.2.2.2 hR2.r1 hR2.r2 (hR2.hcp hw2)) (cwV 1 K.1.2.2.2.2 gX8_drop_X7_follow rfl rfl rfl (by decide +kernel) ⟨Nat.le_of_ble_eq_true rfl, Nat.le_of_ble_eq_true rfl⟩) rfl (Nat.le_of_ble_eq_true rfl) dX8_drop_41 rfl ⟨Nat.le_of_ble_eq_true rfl, Nat.le_of_ble_eq_true rfl⟩ rfl (fun C_10 hp_41 => ?_)
  obtain ⟨w13_11, w14_12, w15_13, w16_14, w17_15, hC_41, hvf_41, hcf_41, hl16_41, hl17_41⟩ := hp_41
  refine z_C hC_41 ?_
  refine z_iload_n 45 K dX8_drop_44 rfl rfl 0 rfl ?_
  exact z_iret K rfl dX8_drop_45 ⟨IW_mk hB2 hT2 hX2 hHn_13 (fun q hq => ((va_up_ne _ _ (by omega)).trans ((va_up_ne _ _ (by omega)).trans ((va_up_ne _ _ (by omega)).trans ((va_up_ne _ _ (by omega)).trans ((va_up_ne _ _ (by omega)).trans ((va_up_ne _ _ (by omega)).trans ((va_up_ne _ _ (by omega)).trans ((va_up_ne _ _ (by omega)).trans ((va_up_ne _ _ (by omega)).trans rfl)))))))))) ⟨((va_up_ne _ _ (by decide)).trans ((va_up_ne _ _ (by decide)).trans ((va_up_ne _ _ (by decide)).trans ((va_up_ne _ _ (by decide)).trans ((va_up_ne _ _ (by decide)).trans ((va_up_ne _ _ (by decide)).trans ((va_up_ne _ _ (by decide)).trans ((va_up_ne _ _ (by decide)).trans ((va_up_ne _ _ (by decide)).trans hf_13_1))))))))), ((va_up_ne _ _ (by decide)).trans ((va_up_ne _ _ (by decide)).trans ((va_up_ne _ _ (by decide)).trans ((va_up_ne _ _ (by decide)).trans ((va_up_ne _ _ (by decide)).trans ((va_up_ne _ _ (by decide)).trans ((va_up_ne _ _ (by decide)).trans ((va_up_ne _ _ (by decide)).trans (va_up_eq _ 2 _))))))))), ((va_up_ne _ _ (by decide)).trans ((va_up_ne _ _ (by decide)).trans ((va_up_ne _ _ (by decide)).trans ((va_up_ne _ _ (by decide)).trans ((va_up_ne _ _ (by decide)).trans ((va_up_ne _ _ (by decide)).trans ((va_up_ne _ _ (by decide)).trans (va_up_eq _ 3 _)))))))), ((va_up_ne _ _ (by decide)).trans ((va_up_ne _ _ (by decide)).trans ((va_up_ne _ _ (by decide)).trans ((va_up_ne _ _ (by decide)).trans ((va_up_ne _ _ (by decide)).trans ((va_up_ne _ _ (by decide)).trans (va_up_eq _ 4 _))))))), ((va_up_ne _ _ (by decide)).trans ((va_up_ne _ _ (by decide)).trans ((va_up_ne _ _ (by decide)).trans ((va_up_ne _ _ (by decide)).trans ((va_up_ne _ _ (by decide)).trans ((va_up_ne _ _ (by decide)).trans ((va_up_ne _ _ (by decide)).trans ((va_up_ne _ _ (by decide)).trans ((va_up_ne _ _ (by decide)).trans hf_13_5))))))))), ((va_up_ne _ _ (by decide)).trans ((va_up_ne _ _ (by decide)).trans ((va_up_ne _ _ (by decide)).trans ((va_up_ne _ _ (by decide)).trans ((va_up_ne _ _ (by decide)).trans ((va_up_ne _ _ (by decide)).trans ((va_up_ne _ _ (by decide)).trans ((va_up_ne _ _ (by decide)).trans ((va_up_ne _ _ (by decide)).trans hf_13_6))))))))), ((va_up_ne _ _ (by decide)).trans ((va_up_ne _ _ (by decide)).trans ((va_up_ne _ _ (by decide)).trans ((va_up_ne _ _ (by decide)).trans ((va_up_ne _ _ (by decide)).trans ((va_up_ne _ _ (by decide)).trans ((va_up_ne _ _ (by decide)).trans ((va_up_ne _ _ (by decide)).trans ((va_up_ne _ _ (by decide)).trans hf_13_7))))))))), ((va_up_ne _ _ (by decide)).trans ((va_up_ne _ _ (by decide)).trans ((va_up_ne _ _ (by decide)).trans ((va_up_ne _ _ (by decide)).trans ((va_up_ne _ _ (by decide)).trans ((va_up_ne _ _ (by decide)).trans ((va_up_ne _ _ (by decide)).trans ((va_up_ne _ _ (by decide)).trans ((va_up_ne _ _ (by decide)).trans hf_13_8))))))))), ((va_up_ne _ _ (by decide)).trans ((va_up_ne _ _ (by decide)).trans ((va_up_ne _ _ (by decide)).trans ((va_up_ne _ _ (by decide)).trans ((va_up_ne _ _ (by decide)).trans ((va_up_ne _ _ (by decide)).trans ((va_up_ne _ _ (by decide)).trans ((va_up_ne _ _ (by decide)).trans ((va_up_ne _ _ (by decide)).trans hf_13_9))))))))), ((va_up_ne _ _ (by decide)).trans ((va_up_ne _ _ (by decide)).trans ((va_up_ne _ _ (by decide)).trans ((va_up_ne _ _ (by decide)).trans ((va_up_ne _ _ (by decide)).trans ((va_up_ne _ _ (by decide)).trans ((va_up_ne _ _ (by decide)).trans ((va_up_ne _ _ (by decide)).trans ((va_up_ne _ _ (by decide)).trans hf_13_10))))))))), ((va_up_ne _ _ (by decide)).trans ((va_up_ne _ _ (by decide)).trans ((va_up_ne _ _ (by decide)).trans ((va_up_ne _ _ (by decide)).trans ((va_up_ne _ _ (by decide)).trans ((va_up_ne _ _ (by decide)).trans ((va_up_ne _ _ (by decide)).trans ((va_up_ne _ _ (by decide)).trans ((va_up_ne _ _ (by decide)).trans hf_13_11)))))))))⟩ e1 e2 e3 hR2 hw2 ⟨((va_up_ne _ _ (by decide)).trans ((va_up_ne _ _ (by decide)).trans (va_up_eq _ 12 _))), ((va_up_ne _ _ (by decide)).trans ((va_up_ne _ _ (by decide)).trans ((va_up_ne _ _ (by decide)).trans ((va_up_ne _ _ (by decide)).trans ((va_up_ne _ _ (by decide)).trans (va_up_eq _ 13 _)))))), ((va_up_ne _ _ (by decide)).trans ((va_up_ne _ _ (by decide)).trans ((va_up_ne _ _ (by decide)).trans ((va_up_ne _ _ (by decide)).trans (va_up_eq _ 14 _))))), ((va_up_ne _ _ (by decide)).trans ((va_up_ne _ _ (by decide)).trans ((va_up_ne _ _ (by decide)).trans (va_up_eq _ 15 _)))), ((va_up_ne _ _ (by decide)).trans (va_up_eq _ 16 _)), (va_up_eq _ 17 _)⟩ rfl hvf_41 hcf_41 hl16_41 hl17_41, fun q hq => (((va_up_ne _ _ (by omega)).trans ((va_up_ne _ _ (by omega)).trans ((va_up_ne _ _ (by omega)).trans ((va_up_ne _ _ (by omega)).trans ((va_up_ne _ _ (by omega)).trans ((va_up_ne _ _ (by omega)).trans ((va_up_ne _ _ (by omega)).trans ((va_up_ne _ _ (by omega)).trans ((va_up_ne _ _ (by omega)).trans rfl)))))))))).trans (hsm_13 q (by omega)), (drop_lost hR hVR hw (by omega))⟩
set_option maxRecDepth 20000 in
theorem hin_X8_join_X1 : ∀ w ∈ wsX10, w ∈ wsX8_join := by decide +kernel
set_option maxRecDepth 20000 in
theorem hin_X8_join_X4 : ∀ w ∈ wsX40, w ∈ wsX8_join := by decide +kernel
set_option maxRecDepth 20000 in
theorem hin_X8_join_X8 : ∀ w ∈ wsX80, w ∈ wsX8_join := by decide +kernel
set_option maxRecDepth 20000 in
theorem hat1_X8_join_59 : ∀ w ∈ (vx_atS RX8 110 "java/lang/IllegalStateException" ["java/lang/RuntimeException", "java/lang/Exception"]).filter goodWord, w ∈ wsX8_join := by decide +kernel
set_option maxRecDepth 20000 in
theorem hat1_X8_join_23 : ∀ w ∈ (vx_atS RX8 103 "java/lang/IndexOutOfBoundsException" ["java/lang/RuntimeException", "java/lang/Exception"]).filter goodWord, w ∈ wsX8_join := by decide +kernel
set_option maxHeartbeats 4000000 in
set_option maxRecDepth 100000 in
theorem x_X8_join (l : Launch) (g : zG) (C : Nat → va_E) (p0 : Int) (f : Int → Int) (past : Int → Int) (tx : Int → Int) (k : Int) (ty : Int) (cap : Int) (hI : IW g C f k past ty tx) (hP : PW cap f k past ty tx) (h_p0 : -2147483648 ≤ p0 ∧ p0 < 2147483648) (hk9 : kJoi f p0 ≠ 0) (hlt : l.stackTraces = false) : vx_Met l yX8_join wsX8_join ({ frames := 7, cells := 2, slots := 12, locals := 103 } : Room) (zPre g C [.ref (aD g 0), .int (iZ p0)]) (zQi g (fun z C' => False)) (zX g (fun E C' => IW g C' f k past ty tx ∧ zSame C C' ∧ ((E = "java/lang/IndexOutOfBoundsException" ∧ kJoi f p0 = 1) ∨ (E = "java/lang/IllegalStateException" ∧ kJoi f p0 = 2)))) 2 12 (zA g) := by
  refine z_enterX RX8 rfl (by decide) rfl (Nat.le_of_ble_eq_true rfl) ?_
  intro p e s m args below meth c K harg hne
  refine z_sub (lv' := [(0, .ref (aD g 0)), (1, .int (iZ p0))]) [0, 1] rfl ?_
  have hI0 := hI
  obtain ⟨hB, hL, hV, hT, hH, hX⟩ := hI
  obtain ⟨hMa, hSp⟩ := id hB
  obtain ⟨num, pgs, cc, cn, cp, pn, pm, ⟨hSt, hEx, hNum, hPgs, hCi, hCc, hCn, hCp, hPr, hPc, hPm⟩, hR⟩ := id hL
  obtain ⟨vb, vt, vf, lt, lo, ⟨hVw, hVb, hVt, hVf, hLe, hLo⟩, hVR⟩ := id hV
  obtain ⟨tc, np, tp, hTr, hTn, hTp, hnp⟩ := id hT
  obtain ⟨cur, stp, pl, px, hTx, hXc, hXl, hXp, hpx⟩ := id hX
  obtain ⟨old, hHi, hHs, hho, -, -⟩ := id hH
  obtain ⟨hw, hk, hpst, hty, htxr, hrtx, hrp, hcap⟩ := id hP
  have hn := hw.n
  have hnx := hw.nx
  have hbp := hw.bp
  refine z_aload_n 1 K dX8_join_0 rfl rfl 0 rfl ?_
  refine z_get 4 K hin_X8_join_X8 0 (by decide) hMa rfl 0 (by decide) (by decide +kernel : Cond.fieldLink RX8 12 "BriefBuilder" "state" "LBriefBuilder$State;" ∈ wsX8_join) (fun _ h9 => h9) rfl dX8_join_1 rfl ?_
  refine z_get 7 K hin_X8_join_X4 1 (by decide) hSt rfl 0 (by decide) (by decide +kernel : Cond.fieldLink RX8 48 "BriefBuilder$State" "exhibits" "LBriefBuilder$Exhibits;" ∈ wsX8_join) (fun _ h9 => h9) rfl dX8_join_4 rfl ?_
  refine z_astore_n (lv' := [(2, .ref (aD g 2)), (0, .ref (aD g 0)), (1, .int (iZ p0))]) 8 K dX8_join_7 rfl rfl (by decide) rfl ?_
  refine z_aload_n 9 K dX8_join_8 rfl rfl 1 rfl ?_
  refine z_iload_n 10 K dX8_join_9 rfl rfl 2 rfl ?_
  refine z_xVv (As := [.int (iZ p0)]) (rest := []) 13 K 0 (by decide) hMa rfl rfl (m_X8_checkPlace l g _ p0 (f 1) (f 2) (f 0) hMa hSt hEx (by omega) (by omega) hlt) (cwV 1 K.1.2.2.2.2 gX8_join_X8_checkPlace rfl rfl rfl (by decide +kernel) ⟨Nat.le_of_ble_eq_true rfl, Nat.le_of_ble_eq_true rfl⟩) rfl (Nat.le_of_ble_eq_true rfl) dX8_join_10 rfl ⟨Nat.le_of_ble_eq_true rfl, Nat.le_of_ble_eq_true rfl⟩ rfl (fun E9 C9 hx9 => ?_) (fun C_2 hp_10 => ?_)
  · obtain ⟨hE9, rfl, hx9⟩ := hx9
    exact z_out hne K (Nat.le_of_ble_eq_true rfl) (Nat.le_of_ble_eq_true rfl) ⟨hI0, zSame_rf _, Or.inl ⟨hE9, (by unfold kJoi; repeat (first | omega | split))⟩⟩
  obtain ⟨hC_10, hc_10⟩ := hp_10
  refine z_C hC_10 ?_
  refine z_iload_n 14 K dX8_join_13 rfl rfl 2 rfl ?_
  refine z_aload_n 15 K dX8_join_14 rfl rfl 0 rfl ?_
  refine z_get 18 K hin_X8_join_X1 2 (by decide) hEx rfl 2 (by decide) (by decide +kernel : Cond.fieldLink RX8 95 "BriefBuilder$Exhibits" "count" "I" ∈ wsX8_join) (fun _ h9 => h9) rfl dX8_join_15 rfl ?_
  refine z_iconst 19 K dX8_join_18 rfl ?_
  refine z_isub 20 K dX8_join_19 rfl ?_
  refine z_icmp_lt (tgt := 33) 23 K dX8_join_20 rfl (by decide) (by omega) (by omega) (fun c_20 => ?_) (fun c_20 => ?_)
  · skip
    have hj1 := hR.ex p0 (by omega) (by omega)
    have hj2 := hR.ex (p0 + 1) (by omega) (by omega)
    rw [show 2 * (p0 + 1) + 3 = 2 * p0 + 5 by omega, show 2 * (p0 + 1) + 4 = 2 * p0 + 6 by omega] at hj2
    have hx1 := hw.ex p0 (by omega) (by omega)
    have hx2 := hw.ex (p0 + 1) (by omega) (by omega)
    rw [show 2 * (p0 + 1) + 3 = 2 * p0 + 5 by omega, show 2 * (p0 + 1) + 4 = 2 * p0 + 6 by omega] at hx2
    refine z_aload_n 34 K dX8_join_33 rfl rfl 0 rfl ?_
    refine z_get 37 K hin_X8_join_X1 2 (by decide) hEx rfl 1 (by decide) (by decide +kernel : Cond.fieldLink RX8 81 "BriefBuilder$Exhibits" "pages" "[I" ∈ wsX8_join) (fun _ h9 => h9) rfl dX8_join_34 rfl ?_
    refine z_iload_n 38 K dX8_join_37 rfl rfl 2 rfl ?_
    refine z_iald (f := pgs) 39 K 4 (by decide) hPgs (by omega) (by omega) (by decide) dX8_join_38 rfl ?_
    refine z_top (f (2 * p0 + 4)) hj1.2 ?_
    refine z_istore_n (lv' := [(3, .int (iZ (f (2 * p0 + 4)))), (2, .ref (aD g 2)), (0, .ref (aD g 0)), (1, .int (iZ p0))]) 40 K dX8_join_39 rfl rfl (by decide) rfl ?_
    refine z_iload_n 41 K dX8_join_40 rfl rfl 0 rfl ?_
    refine z_aload_n 42 K dX8_join_41 rfl rfl 1 rfl ?_
    refine z_get 45 K hin_X8_join_X1 2 (by decide) hEx rfl 1 (by decide) (by decide +kernel : Cond.fieldLink RX8 81 "BriefBuilder$Exhibits" "pages" "[I" ∈ wsX8_join) (fun _ h9 => h9) rfl dX8_join_42 rfl ?_
    refine z_iload_n 46 K dX8_join_45 rfl rfl 3 rfl ?_
    refine z_iconst 47 K dX8_join_46 rfl ?_
    refine z_iadd 48 K dX8_join_47 rfl ?_
    refine z_iald (f := pgs) 49 K 4 (by decide) hPgs (by omega) (by omega) (by decide) dX8_join_48 rfl ?_
    refine z_top (f (2 * p0 + 6)) hj2.2 ?_
    refine z_iadd 50 K dX8_join_49 rfl ?_
    refine z_top (f (2 * p0 + 4) + f (2 * p0 + 6)) (by omega) ?_
    refine z_istore (lv' := [(4, .int (iZ (f (2 * p0 + 4) + f (2 * p0 + 6)))), (3, .int (iZ (f (2 * p0 + 4)))), (2, .ref (aD g 2)), (0, .ref (aD g 0)), (1, .int (iZ p0))]) 52 K dX8_join_50 rfl (by decide) rfl ?_
    refine z_iload 54 K dX8_join_52 rfl 0 rfl ?_
    refine z_bipush 56 K dX8_join_54 rfl rfl ?_
    refine z_icmp_le (tgt := 69) 59 K dX8_join_56 rfl (by decide) (by omega) (by decide) (fun c_56 => ?_) (fun c_56 => ?_)
    · skip
      exact absurd (by unfold kJoi; repeat (first | omega | split)) hk9
    · skip
      exact z_throw hne K hlt (cls := "java/lang/IllegalStateException") (text := "the exhibit would have too many pages") (names := ["java/lang/RuntimeException", "java/lang/Exception"]) (by decide +kernel) (by decide +kernel) (by decide +kernel) (by decide +kernel) (by decide +kernel) hat1_X8_join_59 at_IS_2 at_IS_g dX8_join_59 dX8_join_62 dX8_join_63 dX8_join_65 dX8_join_68 (Nat.le_of_ble_eq_true rfl) (Nat.le_of_ble_eq_true rfl) (Nat.le_of_ble_eq_true rfl) (Nat.le_of_ble_eq_true rfl) (Nat.le_of_ble_eq_true rfl) (Nat.le_of_ble_eq_true rfl) ⟨hI0, zSame_rf _, Or.inr (⟨rfl, (by unfold kJoi; repeat (first | omega | split))⟩)⟩
  · skip
    exact z_throw hne K hlt (cls := "java/lang/IndexOutOfBoundsException") (text := "there is no exhibit behind this one") (names := ["java/lang/RuntimeException", "java/lang/Exception"]) (by decide +kernel) (by decide +kernel) (by decide +kernel) (by decide +kernel) (by decide +kernel) hat1_X8_join_23 at_IO_2 at_IO_g dX8_join_23 dX8_join_26 dX8_join_27 dX8_join_29 dX8_join_32 (Nat.le_of_ble_eq_true rfl) (Nat.le_of_ble_eq_true rfl) (Nat.le_of_ble_eq_true rfl) (Nat.le_of_ble_eq_true rfl) (Nat.le_of_ble_eq_true rfl) (Nat.le_of_ble_eq_true rfl) ⟨hI0, zSame_rf _, Or.inl ⟨rfl, (by unfold kJoi; repeat (first | omega | split))⟩⟩
set_option maxHeartbeats 4000000 in
set_option maxRecDepth 100000 in
theorem a_X8_join (l : Launch) (g : zG) (C : Nat → va_E) (p0 : Int) (f : Int → Int) (past : Int → Int) (tx : Int → Int) (k : Int) (ty : Int) (cap : Int) (hI : IW g C f k past ty tx) (hP : PW cap f k past ty tx) (h_p0 : -2147483648 ≤ p0 ∧ p0 < 2147483648) (hk9 : kJoi f p0 = 0) : Met l yX8_join wsX8_join ({ frames := 4, cells := 0, slots := 0, locals := 103 } : Room) (zPre g C [.ref (aD g 0), .int (iZ p0)]) (zQi g (fun z C' => IW g C' (mJoin f p0) (mKp k + 1) (mSav f past k) ty tx ∧ zSame C C' ∧ z = f (2 * p0 + 4) + f (2 * p0 + 6))) 0 0 (zA g) := by
  refine z_enter RX8 rfl (by decide) rfl (Nat.le_of_ble_eq_true rfl) ?_
  intro p e s m args below meth c K harg
  refine z_sub (lv' := [(0, .ref (aD g 0)), (1, .int (iZ p0))]) [0, 1] rfl ?_
  have hI0 := hI
  obtain ⟨hB, hL, hV, hT, hH, hX⟩ := hI
  obtain ⟨hMa, hSp⟩ := id hB
  obtain ⟨num, pgs, cc, cn, cp, pn, pm, ⟨hSt, hEx, hNum, hPgs, hCi, hCc, hCn, hCp, hPr, hPc, hPm⟩, hR⟩ := id hL
  obtain ⟨vb, vt, vf, lt, lo, ⟨hVw, hVb, hVt, hVf, hLe, hLo⟩, hVR⟩ := id hV
  obtain ⟨tc, np, tp, hTr, hTn, hTp, hnp⟩ := id hT
  obtain ⟨cur, stp, pl, px, hTx, hXc, hXl, hXp, hpx⟩ := id hX
  obtain ⟨old, hHi, hHs, hho, -, -⟩ := id hH
  obtain ⟨hw, hk, hpst, hty, htxr, hrtx, hrp, hcap⟩ := id hP
  have hn := hw.n
  have hnx := hw.nx
  have hbp := hw.bp
  have hq : (0 ≤ p0 ∧ p0 < f 1 - 1) ∧ f (2 * p0 + 4) + f (2 * p0 + 6) ≤ 60 := by
    unfold kJoi at hk9
    repeat (first | omega | split at hk9)
  have hj1 := hR.ex p0 (by omega) (by omega)
  have hj2 := hR.ex (p0 + 1) (by omega) (by omega)
  rw [show 2 * (p0 + 1) + 3 = 2 * p0 + 5 by omega, show 2 * (p0 + 1) + 4 = 2 * p0 + 6 by omega] at hj2
  have hx1 := hw.ex p0 (by omega) (by omega)
  have hx2 := hw.ex (p0 + 1) (by omega) (by omega)
  rw [show 2 * (p0 + 1) + 3 = 2 * p0 + 5 by omega, show 2 * (p0 + 1) + 4 = 2 * p0 + 6 by omega] at hx2
  refine z_aload_n 1 K dX8_join_0 rfl rfl 0 rfl ?_
  refine z_get 4 K hin_X8_join_X8 0 (by decide) hMa rfl 0 (by decide) (by decide +kernel : Cond.fieldLink RX8 12 "BriefBuilder" "state" "LBriefBuilder$State;" ∈ wsX8_join) (fun _ h9 => h9) rfl dX8_join_1 rfl ?_
  refine z_get 7 K hin_X8_join_X4 1 (by decide) hSt rfl 0 (by decide) (by decide +kernel : Cond.fieldLink RX8 48 "BriefBuilder$State" "exhibits" "LBriefBuilder$Exhibits;" ∈ wsX8_join) (fun _ h9 => h9) rfl dX8_join_4 rfl ?_
  refine z_astore_n (lv' := [(2, .ref (aD g 2)), (0, .ref (aD g 0)), (1, .int (iZ p0))]) 8 K dX8_join_7 rfl rfl (by decide) rfl ?_
  refine z_aload_n 9 K dX8_join_8 rfl rfl 1 rfl ?_
  refine z_iload_n 10 K dX8_join_9 rfl rfl 2 rfl ?_
  refine z_vVv (As := [.int (iZ p0)]) (rest := []) 13 K 0 (by decide) hMa rfl rfl (n_X8_checkPlace l g _ p0 (f 1) (f 2) (f 0) hMa hSt hEx (by omega) (by omega) (by omega)) (cwV 1 K.1.2.2.2.2 gX8_join_X8_checkPlace rfl rfl rfl (by decide +kernel) ⟨Nat.le_of_ble_eq_true rfl, Nat.le_of_ble_eq_true rfl⟩) rfl (Nat.le_of_ble_eq_true rfl) dX8_join_10 rfl ⟨Nat.le_of_ble_eq_true rfl, Nat.le_of_ble_eq_true rfl⟩ rfl (fun C_2 hp_10 => ?_)
  refine z_C hp_10 ?_
  refine z_iload_n 14 K dX8_join_13 rfl rfl 2 rfl ?_
  refine z_aload_n 15 K dX8_join_14 rfl rfl 0 rfl ?_
  refine z_get 18 K hin_X8_join_X1 2 (by decide) hEx rfl 2 (by decide) (by decide +kernel : Cond.fieldLink RX8 95 "BriefBuilder$Exhibits" "count" "I" ∈ wsX8_join) (fun _ h9 => h9) rfl dX8_join_15 rfl ?_
  refine z_iconst 19 K dX8_join_18 rfl ?_
  refine z_isub 20 K dX8_join_19 rfl ?_
  refine z_icmp_lt (tgt := 33) 23 K dX8_join_20 rfl (by decide) (by omega) (by omega) (fun c_20 => ?_) (fun c_20 => ?_)
  · skip
    refine z_aload_n 34 K dX8_join_33 rfl rfl 0 rfl ?_
    refine z_get 37 K hin_X8_join_X1 2 (by decide) hEx rfl 1 (by decide) (by decide +kernel : Cond.fieldLink RX8 81 "BriefBuilder$Exhibits" "pages" "[I" ∈ wsX8_join) (fun _ h9 => h9) rfl dX8_join_34 rfl ?_
    refine z_iload_n 38 K dX8_join_37 rfl rfl 2 rfl ?_
    refine z_iald (f := pgs) 39 K 4 (by decide) hPgs (by omega) (by omega) (by decide) dX8_join_38 rfl ?_
    refine z_top (f (2 * p0 + 4)) hj1.2 ?_
    refine z_istore_n (lv' := [(3, .int (iZ (f (2 * p0 + 4)))), (2, .ref (aD g 2)), (0, .ref (aD g 0)), (1, .int (iZ p0))]) 40 K dX8_join_39 rfl rfl (by decide) rfl ?_
    refine z_iload_n 41 K dX8_join_40 rfl rfl 0 rfl ?_
    refine z_aload_n 42 K dX8_join_41 rfl rfl 1 rfl ?_
    refine z_get 45 K hin_X8_join_X1 2 (by decide) hEx rfl 1 (by decide) (by decide +kernel : Cond.fieldLink RX8 81 "BriefBuilder$Exhibits" "pages" "[I" ∈ wsX8_join) (fun _ h9 => h9) rfl dX8_join_42 rfl ?_
    refine z_iload_n 46 K dX8_join_45 rfl rfl 3 rfl ?_
    refine z_iconst 47 K dX8_join_46 rfl ?_
    refine z_iadd 48 K dX8_join_47 rfl ?_
    refine z_iald (f := pgs) 49 K 4 (by decide) hPgs (by omega) (by omega) (by decide) dX8_join_48 rfl ?_
    refine z_top (f (2 * p0 + 6)) hj2.2 ?_
    refine z_iadd 50 K dX8_join_49 rfl ?_
    refine z_top (f (2 * p0 + 4) + f (2 * p0 + 6)) (by omega) ?_
    refine z_istore (lv' := [(4, .int (iZ (f (2 * p0 + 4) + f (2 * p0 + 6)))), (3, .int (iZ (f (2 * p0 + 4)))), (2, .ref (aD g 2)), (0, .ref (aD g 0)), (1, .int (iZ p0))]) 52 K dX8_join_50 rfl (by decide) rfl ?_
    refine z_iload 54 K dX8_join_52 rfl 0 rfl ?_
    refine z_bipush 56 K dX8_join_54 rfl rfl ?_
    refine z_icmp_le (tgt := 69) 59 K dX8_join_56 rfl (by decide) (by omega) (by decide) (fun c_56 => ?_) (fun c_56 => ?_)
    · skip
      refine z_aload_n 70 K dX8_join_69 rfl rfl 3 rfl ?_
      refine z_get 73 K hin_X8_join_X8 0 (by decide) hMa rfl 3 (by decide) (by decide +kernel : Cond.fieldLink RX8 33 "BriefBuilder" "history" "LBriefBuilder$History;" ∈ wsX8_join) (fun _ h9 => h9) rfl dX8_join_70 rfl ?_
      refine z_aload_n 74 K dX8_join_73 rfl rfl 3 rfl ?_
      refine z_get 77 K hin_X8_join_X8 0 (by decide) hMa rfl 0 (by decide) (by decide +kernel : Cond.fieldLink RX8 12 "BriefBuilder" "state" "LBriefBuilder$State;" ∈ wsX8_join) (fun _ h9 => h9) rfl dX8_join_74 rfl ?_
      refine z_vVv (As := [.ref (aD g 1)]) (rest := []) 80 K 21 (by decide) hHi rfl rfl (s_X2_save l g _ f past k cap hH hL hk hw hpst) (cwV 1 K.1.2.2.2.2 gX8_join_X2_save rfl rfl rfl (by decide +kernel) ⟨Nat.le_of_ble_eq_true rfl, Nat.le_of_ble_eq_true rfl⟩) rfl (Nat.le_of_ble_eq_true rfl) dX8_join_77 rfl ⟨Nat.le_of_ble_eq_true rfl, Nat.le_of_ble_eq_true rfl⟩ rfl (fun C_4 hp_77 => ?_)
      obtain ⟨hHn_77, hsm_77⟩ := hp_77
      have hf_77_0 : C_4 0 = .inr (8, [.ref (aD g 1), .ref (aD g 12), .ref (aD g 18), .ref (aD g 21), .ref (aD g 23), .ref (aD g 27)]) := (hsm_77 0 (by omega)).trans hMa
      have hf_77_27 : C_4 27 = eI g 30 (fun k => k) := (hsm_77 27 (by omega)).trans hSp
      have hf_77_1 : C_4 1 = .inr (4, [.ref (aD g 2), .ref (aD g 5), .ref (aD g 9)]) := (hsm_77 1 (by omega)).trans hSt
      have hf_77_2 : C_4 2 = .inr (1, [.ref (aD g 3), .ref (aD g 4), .int (iZ (f 1)), .int (iZ (f 2)), .int (iZ (f 0))]) := (hsm_77 2 (by omega)).trans hEx
      have hf_77_3 : C_4 3 = eI g 30 num := (hsm_77 3 (by omega)).trans hNum
      have hf_77_4 : C_4 4 = eI g 30 pgs := (hsm_77 4 (by omega)).trans hPgs
      have hf_77_5 : C_4 5 = .inr (0, [.ref (aD g 6), .ref (aD g 7), .ref (aD g 8)]) := (hsm_77 5 (by omega)).trans hCi
      have hf_77_6 : C_4 6 = eI g 12 cc := (hsm_77 6 (by omega)).trans hCc
      have hf_77_7 : C_4 7 = eI g 72 cn := (hsm_77 7 (by omega)).trans hCn
      have hf_77_8 : C_4 8 = eI g 72 cp := (hsm_77 8 (by omega)).trans hCp
      have hf_77_9 : C_4 9 = .inr (3, [.ref (aD g 10), .ref (aD g 11)]) := (hsm_77 9 (by omega)).trans hPr
      have hf_77_10 : C_4 10 = eI g 12 pn := (hsm_77 10 (by omega)).trans hPc
      have hf_77_11 : C_4 11 = eI g 72 pm := (hsm_77 11 (by omega)).trans hPm
      have hf_77_12 : C_4 12 = .inr (7, [.ref (aD g 13), .ref (aD g 14), .ref (aD g 15), .ref (aD g 16), .ref (aD g 17), .int (iZ (sBds f))]) := (hsm_77 12 (by omega)).trans hVw
      have hf_77_13 : C_4 13 = eI g 30 vb := (hsm_77 13 (by omega)).trans hVb
      have hf_77_14 : C_4 14 = eI g 30 vt := (hsm_77 14 (by omega)).trans hVt
      have hf_77_15 : C_4 15 = eI g 30 vf := (hsm_77 15 (by omega)).trans hVf
      have hf_77_16 : C_4 16 = eI g 72 lt := (hsm_77 16 (by omega)).trans hLe
      have hf_77_17 : C_4 17 = eZ g 72 lo := (hsm_77 17 (by omega)).trans hLo
      have hf_77_18 : C_4 18 = .inr (6, [.ref (aD g 19), .ref (aD g 20), .int (iZ tc)]) := (hsm_77 18 (by omega)).trans hTr
      have hf_77_19 : C_4 19 = eI g 30 np := (hsm_77 19 (by omega)).trans hTn
      have hf_77_20 : C_4 20 = eI g 31 tp := (hsm_77 20 (by omega)).trans hTp
      have hf_77_22 : C_4 22 = eS g 6 (fun k => some (aD g (28 + 11 * k))) := (hsm_77 22 (by omega)).trans hHs
      have hf_77_23 : C_4 23 = .inr (5, [.ref (aD g 24), .int (iZ ty), .ref (aD g 25), .ref (aD g 26), .int (iZ cur), .int (iZ stp)]) := (hsm_77 23 (by omega)).trans hTx
      have hf_77_24 : C_4 24 = eI g 60 tx := (hsm_77 24 (by omega)).trans hXc
      have hf_77_25 : C_4 25 = eI g 6 pl := (hsm_77 25 (by omega)).trans hXl
      have hf_77_26 : C_4 26 = eI g 6 px := (hsm_77 26 (by omega)).trans hXp
      have hB2 := wB_cong hB (fun q hq => hsm_77 q (by omega))
      have hT2 := wT_cong hT (fun q hq => hsm_77 q (by omega))
      have hX2 := wX_cong hX (fun q hq => hsm_77 q (by omega))
      refine z_aload_n 81 K dX8_join_80 rfl rfl 3 rfl ?_
      refine z_get 84 K hin_X8_join_X8 0 (by decide) hf_77_0 rfl 0 (by decide) (by decide +kernel : Cond.fieldLink RX8 12 "BriefBuilder" "state" "LBriefBuilder$State;" ∈ wsX8_join) (fun _ h9 => h9) rfl dX8_join_81 rfl ?_
      refine z_get 87 K hin_X8_join_X4 1 (by decide) hf_77_1 rfl 1 (by decide) (by decide +kernel : Cond.fieldLink RX8 111 "BriefBuilder$State" "citations" "LBriefBuilder$Citations;" ∈ wsX8_join) (fun _ h9 => h9) rfl dX8_join_84 rfl ?_
      refine z_aload_n 88 K dX8_join_87 rfl rfl 2 rfl ?_
      refine z_get 91 K hin_X8_join_X1 2 (by decide) hf_77_2 rfl 0 (by decide) (by decide +kernel : Cond.fieldLink RX8 78 "BriefBuilder$Exhibits" "numbers" "[I" ∈ wsX8_join) (fun _ h9 => h9) rfl dX8_join_88 rfl ?_
      refine z_iload_n 92 K dX8_join_91 rfl rfl 4 rfl ?_
      refine z_iconst 93 K dX8_join_92 rfl ?_
      refine z_iadd 94 K dX8_join_93 rfl ?_
      refine z_iald (f := num) 95 K 3 (by decide) hf_77_3 (by omega) (by omega) (by decide) dX8_join_94 rfl ?_
      refine z_top (f (2 * p0 + 5)) hj2.1 ?_
      refine z_aload_n 96 K dX8_join_95 rfl rfl 2 rfl ?_
      refine z_get 99 K hin_X8_join_X1 2 (by decide) hf_77_2 rfl 0 (by decide) (by decide +kernel : Cond.fieldLink RX8 78 "BriefBuilder$Exhibits" "numbers" "[I" ∈ wsX8_join) (fun _ h9 => h9) rfl dX8_join_96 rfl ?_
      refine z_iload_n 100 K dX8_join_99 rfl rfl 4 rfl ?_
      refine z_iald (f := num) 101 K 3 (by decide) hf_77_3 (by omega) (by omega) (by decide) dX8_join_100 rfl ?_
      refine z_top (f (2 * p0 + 3)) hj1.1 ?_
      refine z_iload_n 102 K dX8_join_101 rfl rfl 1 rfl ?_
      refine z_vVv (As := [.int (iZ (f (2 * p0 + 5))), .int (iZ (f (2 * p0 + 3))), .int (iZ (f (2 * p0 + 4)))]) (rest := []) 105 K 5 (by decide) hf_77_5 rfl rfl (m_X0_followJoin l g _ (f (2 * p0 + 5)) (f (2 * p0 + 3)) (f (2 * p0 + 4)) cc cn cp hf_77_5 hf_77_6 hf_77_7 hf_77_8 (hR.hcc hw) hR.r2 (by omega) (by omega) (hR.hcp hw)) (cwV 3 K.1.2.2.2.2 gX8_join_X0_followJoin rfl rfl rfl (by decide +kernel) ⟨Nat.le_of_ble_eq_true rfl, Nat.le_of_ble_eq_true rfl⟩) rfl (Nat.le_of_ble_eq_true rfl) dX8_join_102 rfl ⟨Nat.le_of_ble_eq_true rfl, Nat.le_of_ble_eq_true rfl⟩ rfl (fun C_6 hp_102 => ?_)
      refine z_C hp_102 ?_
      refine z_aload_n 106 K dX8_join_105 rfl rfl 2 rfl ?_
      refine z_iload_n 107 K dX8_join_106 rfl rfl 4 rfl ?_
      refine z_iconst 108 K dX8_join_107 rfl ?_
      refine z_iadd 109 K dX8_join_108 rfl ?_
      refine z_vVv (As := [.int (iZ (p0 + 1))]) (rest := []) 112 K 2 (by decide) ((va_up_ne _ _ (by decide)).trans ((va_up_ne _ _ (by decide)).trans hf_77_2)) rfl rfl (m_X1_takeOut l g _ (p0 + 1) (f 1) (f 2) (f 0) num pgs ((va_up_ne _ _ (by decide)).trans ((va_up_ne _ _ (by decide)).trans hf_77_2)) ((va_up_ne _ _ (by decide)).trans ((va_up_ne _ _ (by decide)).trans hf_77_3)) ((va_up_ne _ _ (by decide)).trans ((va_up_ne _ _ (by decide)).trans hf_77_4)) (by omega) (by omega)) (cwV 1 K.1.2.2.2.2 gX8_join_X1_takeOut rfl rfl rfl (by decide +kernel) ⟨Nat.le_of_ble_eq_true rfl, Nat.le_of_ble_eq_true rfl⟩) rfl (Nat.le_of_ble_eq_true rfl) dX8_join_109 rfl ⟨Nat.le_of_ble_eq_true rfl, Nat.le_of_ble_eq_true rfl⟩ rfl (fun C_8 hp_109 => ?_)
      refine z_C hp_109 ?_
      refine z_aload_n 113 K dX8_join_112 rfl rfl 2 rfl ?_
      refine z_get 116 K hin_X8_join_X1 2 (by decide) ((va_up_ne _ _ (by decide)).trans ((va_up_ne _ _ (by decide)).trans (va_up_eq _ 2 _))) rfl 1 (by decide) (by decide +kernel : Cond.fieldLink RX8 81 "BriefBuilder$Exhibits" "pages" "[I" ∈ wsX8_join) (fun _ h9 => h9) rfl dX8_join_113 rfl ?_
      refine z_iload_n 117 K dX8_join_116 rfl rfl 4 rfl ?_
      refine z_iload 119 K dX8_join_117 rfl 0 rfl ?_
      refine z_iast (f := (zOut pgs (f 1) (p0 + 1))) 120 K 4 (by decide) (va_up_eq _ 4 _) (by omega) (by omega) (by decide) dX8_join_119 rfl ?_
      refine z_C (va_uu _ _ _ _) ?_
      refine z_aload_n 121 K dX8_join_120 rfl rfl 3 rfl ?_
      refine z_get 124 K hin_X8_join_X8 0 (by decide) ((va_up_ne _ _ (by decide)).trans ((va_up_ne _ _ (by decide)).trans ((va_up_ne _ _ (by decide)).trans ((va_up_ne _ _ (by decide)).trans ((va_up_ne _ _ (by decide)).trans hf_77_0))))) rfl 1 (by decide) (by decide +kernel : Cond.fieldLink RX8 19 "BriefBuilder" "view" "LBriefBuilder$View;" ∈ wsX8_join) (fun _ h9 => h9) rfl dX8_join_121 rfl ?_
      refine z_aload_n 125 K dX8_join_124 rfl rfl 3 rfl ?_
      refine z_get 128 K hin_X8_join_X8 0 (by decide) ((va_up_ne _ _ (by decide)).trans ((va_up_ne _ _ (by decide)).trans ((va_up_ne _ _ (by decide)).trans ((va_up_ne _ _ (by decide)).trans ((va_up_ne _ _ (by decide)).trans hf_77_0))))) rfl 0 (by decide) (by decide +kernel : Cond.fieldLink RX8 12 "BriefBuilder" "state" "LBriefBuilder$State;" ∈ wsX8_join) (fun _ h9 => h9) rfl dX8_join_125 rfl ?_
      have hw2 : WF (mJoin f p0) (cap) := WF_join hw (by omega) (by omega) (by omega)
      have hR2 : RS (mJoin f p0) (zOut num (f 1) (p0 + 1)) (zu (zOut pgs (f 1) (p0 + 1)) p0 (f (2 * p0 + 4) + f (2 * p0 + 6))) cc (iFn cc cn cp (fun z9 => decide (z9 + (f (2 * p0 + 4)) ≤ 60)) (f (2 * p0 + 5)) (f (2 * p0 + 3)) 72) (iFp cc cn cp (fun z9 => decide (z9 + (f (2 * p0 + 4)) ≤ 60)) (f (2 * p0 + 5)) ((f (2 * p0 + 4))) 72) pn pm := (by have q := RS_fol (x := f (2 * p0 + 5)) (x2 := f (2 * p0 + 3)) (fr := 1) (mo := f (2 * p0 + 4)) (P := fun z => decide (z + f (2 * p0 + 4) ≤ 60)) hR hw (fun z z0 z1 => by rw [decide_eq_true_iff]; omega) (by omega); have e9 : mFol f (f (2 * p0 + 5)) (f (2 * p0 + 3)) 1 (f (2 * p0 + 4)) 1 = f 1 := mFol_lo (by omega); have q2 := RS_out (p := p0 + 1) q (by rw [e9]; omega) (by rw [e9]; omega); rw [e9] at q2; exact RS_pages q2 (by rw [mOut_1, e9]; omega) (by rw [mOut_1, e9]; omega))
      have e1 : f 1 - 1 = (mJoin f p0) 1 := (mJoin_012 f (by omega)).1.symm
      have e2 : f 2 = (mJoin f p0) 2 := (mJoin_012 f (by omega)).2.1.symm
      have e3 : f 0 = (mJoin f p0) 0 := (mJoin_012 f (by omega)).2.2.symm
      have hpg2 : ∀ j, 0 ≤ j → j < f 1 - 1 → 0 ≤ (zu (zOut pgs (f 1) (p0 + 1)) p0 (f (2 * p0 + 4) + f (2 * p0 + 6))) j ∧ (zu (zOut pgs (f 1) (p0 + 1)) p0 (f (2 * p0 + 4) + f (2 * p0 + 6))) j ≤ 60 := by
        intro j j0 j1
        rw [e1] at j1
        exact hR2.hpg hw2 j j0 j1
      have hbp2 := hw2.bp
      have hn2 := hw2.n
      refine z_vVv (As := [.ref (aD g 1)]) (rest := []) 131 K 12 (by decide) ((va_up_ne _ _ (by decide)).trans ((va_up_ne _ _ (by decide)).trans ((va_up_ne _ _ (by decide)).trans ((va_up_ne _ _ (by decide)).trans ((va_up_ne _ _ (by decide)).trans hf_77_12))))) rfl rfl (m_X7_follow l g _ (sBds f) vb vt vf lt lo (f 1 - 1) (f 2) (f 0) (zOut num (f 1) (p0 + 1)) (zu (zOut pgs (f 1) (p0 + 1)) p0 (f (2 * p0 + 4) + f (2 * p0 + 6))) cc (iFn cc cn cp (fun z9 => decide (z9 + (f (2 * p0 + 4)) ≤ 60)) (f (2 * p0 + 5)) (f (2 * p0 + 3)) 72) (iFp cc cn cp (fun z9 => decide (z9 + (f (2 * p0 + 4)) ≤ 60)) (f (2 * p0 + 5)) ((f (2 * p0 + 4))) 72) ((va_up_ne _ _ (by decide)).trans ((va_up_ne _ _ (by decide)).trans ((va_up_ne _ _ (by decide)).trans ((va_up_ne _ _ (by decide)).trans ((va_up_ne _ _ (by decide)).trans hf_77_12))))) ((va_up_ne _ _ (by decide)).trans ((va_up_ne _ _ (by decide)).trans ((va_up_ne _ _ (by decide)).trans ((va_up_ne _ _ (by decide)).trans ((va_up_ne _ _ (by decide)).trans hf_77_13))))) ((va_up_ne _ _ (by decide)).trans ((va_up_ne _ _ (by decide)).trans ((va_up_ne _ _ (by decide)).trans ((va_up_ne _ _ (by decide)).trans ((va_up_ne _ _ (by decide)).trans hf_77_14))))) ((va_up_ne _ _ (by decide)).trans ((va_up_ne _ _ (by decide)).trans ((va_up_ne _ _ (by decide)).trans ((va_up_ne _ _ (by decide)).trans ((va_up_ne _ _ (by decide)).trans hf_77_15))))) ((va_up_ne _ _ (by decide)).trans ((va_up_ne _ _ (by decide)).trans ((va_up_ne _ _ (by decide)).trans ((va_up_ne _ _ (by decide)).trans ((va_up_ne _ _ (by decide)).trans hf_77_16))))) ((va_up_ne _ _ (by decide)).trans ((va_up_ne _ _ (by decide)).trans ((va_up_ne _ _ (by decide)).trans ((va_up_ne _ _ (by decide)).trans ((va_up_ne _ _ (by decide)).trans hf_77_17))))) ((va_up_ne _ _ (by decide)).trans ((va_up_ne _ _ (by decide)).trans ((va_up_ne _ _ (by decide)).trans ((va_up_ne _ _ (by decide)).trans ((va_up_ne _ _ (by decide)).trans hf_77_1))))) ((va_up_ne _ _ (by decide)).trans ((va_up_ne _ _ (by decide)).trans (va_up_eq _ 2 _))) ((va_up_ne _ _ (by decide)).trans (va_up_eq _ 3 _)) (va_up_eq _ 4 _) ((va_up_ne _ _ (by decide)).trans ((va_up_ne _ _ (by decide)).trans ((va_up_ne _ _ (by decide)).trans ((va_up_ne _ _ (by decide)).trans ((va_up_ne _ _ (by decide)).trans hf_77_5))))) ((va_up_ne _ _ (by decide)).trans ((va_up_ne _ _ (by decide)).trans ((va_up_ne _ _ (by decide)).trans ((va_up_ne _ _ (by decide)).trans ((va_up_ne _ _ (by decide)).trans hf_77_6))))) ((va_up_ne _ _ (by decide)).trans ((va_up_ne _ _ (by decide)).trans ((va_up_ne _ _ (by decide)).trans ((va_up_ne _ _ (by decide)).trans (va_up_eq _ 7 _))))) ((va_up_ne _ _ (by decide)).trans ((va_up_ne _ _ (by decide)).trans ((va_up_ne _ _ (by decide)).trans (va_up_eq _ 8 _)))) (by omega) (by omega) hpg2 (hR2.hcc hw2) hVR.2.2.1 hVR.2.2.2 hR2.r1 hR2.r2 (hR2.hcp hw2)) (cwV 1 K.1.2.2.2.2 gX8_join_X7_follow rfl rfl rfl (by decide +kernel) ⟨Nat.le_of_ble_eq_true rfl, Nat.le_of_ble_eq_true rfl⟩) rfl (Nat.le_of_ble_eq_true rfl) dX8_join_128 rfl ⟨Nat.le_of_ble_eq_true rfl, Nat.le_of_ble_eq_true rfl⟩ rfl (fun C_10 hp_128 => ?_)
      obtain ⟨w13_11, w14_12, w15_13, w16_14, w17_15, hC_128, hvf_128, hcf_128, hl16_128, hl17_128⟩ := hp_128
      refine z_C hC_128 ?_
      refine z_iload 133 K dX8_join_131 rfl 0 rfl ?_
      exact z_iret K rfl dX8_join_133 ⟨IW_mk hB2 hT2 hX2 hHn_77 (fun q hq => ((va_up_ne _ _ (by omega)).trans ((va_up_ne _ _ (by omega)).trans ((va_up_ne _ _ (by omega)).trans ((va_up_ne _ _ (by omega)).trans ((va_up_ne _ _ (by omega)).trans ((va_up_ne _ _ (by omega)).trans ((va_up_ne _ _ (by omega)).trans ((va_up_ne _ _ (by omega)).trans ((va_up_ne _ _ (by omega)).trans ((va_up_ne _ _ (by omega)).trans ((va_up_ne _ _ (by omega)).trans rfl)))))))))))) ⟨((va_up_ne _ _ (by decide)).trans ((va_up_ne _ _ (by decide)).trans ((va_up_ne _ _ (by decide)).trans ((va_up_ne _ _ (by decide)).trans ((va_up_ne _ _ (by decide)).trans ((va_up_ne _ _ (by decide)).trans ((va_up_ne _ _ (by decide)).trans ((va_up_ne _ _ (by decide)).trans ((va_up_ne _ _ (by decide)).trans ((va_up_ne _ _ (by decide)).trans ((va_up_ne _ _ (by decide)).trans hf_77_1))))))))))), ((va_up_ne _ _ (by decide)).trans ((va_up_ne _ _ (by decide)).trans ((va_up_ne _ _ (by decide)).trans ((va_up_ne _ _ (by decide)).trans ((va_up_ne _ _ (by decide)).trans ((va_up_ne _ _ (by decide)).trans ((va_up_ne _ _ (by decide)).trans ((va_up_ne _ _ (by decide)).trans (va_up_eq _ 2 _))))))))), ((va_up_ne _ _ (by decide)).trans ((va_up_ne _ _ (by decide)).trans ((va_up_ne _ _ (by decide)).trans ((va_up_ne _ _ (by decide)).trans ((va_up_ne _ _ (by decide)).trans ((va_up_ne _ _ (by decide)).trans ((va_up_ne _ _ (by decide)).trans (va_up_eq _ 3 _)))))))), ((va_up_ne _ _ (by decide)).trans ((va_up_ne _ _ (by decide)).trans ((va_up_ne _ _ (by decide)).trans ((va_up_ne _ _ (by decide)).trans ((va_up_ne _ _ (by decide)).trans ((va_up_ne _ _ (by decide)).trans (va_up_eq _ 4 _))))))), ((va_up_ne _ _ (by decide)).trans ((va_up_ne _ _ (by decide)).trans ((va_up_ne _ _ (by decide)).trans ((va_up_ne _ _ (by decide)).trans ((va_up_ne _ _ (by decide)).trans ((va_up_ne _ _ (by decide)).trans ((va_up_ne _ _ (by decide)).trans ((va_up_ne _ _ (by decide)).trans ((va_up_ne _ _ (by decide)).trans ((va_up_ne _ _ (by decide)).trans ((va_up_ne _ _ (by decide)).trans hf_77_5))))))))))), ((va_up_ne _ _ (by decide)).trans ((va_up_ne _ _ (by decide)).trans ((va_up_ne _ _ (by decide)).trans ((va_up_ne _ _ (by decide)).trans ((va_up_ne _ _ (by decide)).trans ((va_up_ne _ _ (by decide)).trans ((va_up_ne _ _ (by decide)).trans ((va_up_ne _ _ (by decide)).trans ((va_up_ne _ _ (by decide)).trans ((va_up_ne _ _ (by decide)).trans ((va_up_ne _ _ (by decide)).trans hf_77_6))))))))))), ((va_up_ne _ _ (by decide)).trans ((va_up_ne _ _ (by decide)).trans ((va_up_ne _ _ (by decide)).trans ((va_up_ne _ _ (by decide)).trans ((va_up_ne _ _ (by decide)).trans ((va_up_ne _ _ (by decide)).trans ((va_up_ne _ _ (by decide)).trans ((va_up_ne _ _ (by decide)).trans ((va_up_ne _ _ (by decide)).trans ((va_up_ne _ _ (by decide)).trans (va_up_eq _ 7 _))))))))))), ((va_up_ne _ _ (by decide)).trans ((va_up_ne _ _ (by decide)).trans ((va_up_ne _ _ (by decide)).trans ((va_up_ne _ _ (by decide)).trans ((va_up_ne _ _ (by decide)).trans ((va_up_ne _ _ (by decide)).trans ((va_up_ne _ _ (by decide)).trans ((va_up_ne _ _ (by decide)).trans ((va_up_ne _ _ (by decide)).trans (va_up_eq _ 8 _)))))))))), ((va_up_ne _ _ (by decide)).trans ((va_up_ne _ _ (by decide)).trans ((va_up_ne _ _ (by decide)).trans ((va_up_ne _ _ (by decide)).trans ((va_up_ne _ _ (by decide)).trans ((va_up_ne _ _ (by decide)).trans ((va_up_ne _ _ (by decide)).trans ((va_up_ne _ _ (by decide)).trans ((va_up_ne _ _ (by decide)).trans ((va_up_ne _ _ (by decide)).trans ((va_up_ne _ _ (by decide)).trans hf_77_9))))))))))), ((va_up_ne _ _ (by decide)).trans ((va_up_ne _ _ (by decide)).trans ((va_up_ne _ _ (by decide)).trans ((va_up_ne _ _ (by decide)).trans ((va_up_ne _ _ (by decide)).trans ((va_up_ne _ _ (by decide)).trans ((va_up_ne _ _ (by decide)).trans ((va_up_ne _ _ (by decide)).trans ((va_up_ne _ _ (by decide)).trans ((va_up_ne _ _ (by decide)).trans ((va_up_ne _ _ (by decide)).trans hf_77_10))))))))))), ((va_up_ne _ _ (by decide)).trans ((va_up_ne _ _ (by decide)).trans ((va_up_ne _ _ (by decide)).trans ((va_up_ne _ _ (by decide)).trans ((va_up_ne _ _ (by decide)).trans ((va_up_ne _ _ (by decide)).trans ((va_up_ne _ _ (by decide)).trans ((va_up_ne _ _ (by decide)).trans ((va_up_ne _ _ (by decide)).trans ((va_up_ne _ _ (by decide)).trans ((va_up_ne _ _ (by decide)).trans hf_77_11)))))))))))⟩ e1 e2 e3 hR2 hw2 ⟨((va_up_ne _ _ (by decide)).trans ((va_up_ne _ _ (by decide)).trans (va_up_eq _ 12 _))), ((va_up_ne _ _ (by decide)).trans ((va_up_ne _ _ (by decide)).trans ((va_up_ne _ _ (by decide)).trans ((va_up_ne _ _ (by decide)).trans ((va_up_ne _ _ (by decide)).trans (va_up_eq _ 13 _)))))), ((va_up_ne _ _ (by decide)).trans ((va_up_ne _ _ (by decide)).trans ((va_up_ne _ _ (by decide)).trans ((va_up_ne _ _ (by decide)).trans (va_up_eq _ 14 _))))), ((va_up_ne _ _ (by decide)).trans ((va_up_ne _ _ (by decide)).trans ((va_up_ne _ _ (by decide)).trans (va_up_eq _ 15 _)))), ((va_up_ne _ _ (by decide)).trans (va_up_eq _ 16 _)), (va_up_eq _ 17 _)⟩ rfl hvf_128 hcf_128 hl16_128 hl17_128, fun q hq => (((va_up_ne _ _ (by omega)).trans ((va_up_ne _ _ (by omega)).trans ((va_up_ne _ _ (by omega)).trans ((va_up_ne _ _ (by omega)).trans ((va_up_ne _ _ (by omega)).trans ((va_up_ne _ _ (by omega)).trans ((va_up_ne _ _ (by omega)).trans ((va_up_ne _ _ (by omega)).trans ((va_up_ne _ _ (by omega)).trans ((va_up_ne _ _ (by omega)).trans ((va_up_ne _ _ (by omega)).trans rfl)))))))))))).trans (hsm_77 q (by omega)), rfl⟩
    · skip
      exact absurd hq (by omega)
  · skip
    exact absurd hq (by omega)
set_option maxRecDepth 20000 in
theorem hin_X8_split_X1 : ∀ w ∈ wsX10, w ∈ wsX8_split := by decide +kernel
set_option maxRecDepth 20000 in
theorem hin_X8_split_X4 : ∀ w ∈ wsX40, w ∈ wsX8_split := by decide +kernel
set_option maxRecDepth 20000 in
theorem hin_X8_split_X8 : ∀ w ∈ wsX80, w ∈ wsX8_split := by decide +kernel
set_option maxRecDepth 20000 in
theorem hat1_X8_split_32 : ∀ w ∈ (vx_atS RX8 124 "java/lang/IllegalArgumentException" ["java/lang/RuntimeException", "java/lang/Exception"]).filter goodWord, w ∈ wsX8_split := by decide +kernel
set_option maxHeartbeats 4000000 in
set_option maxRecDepth 100000 in
theorem x_X8_split (l : Launch) (g : zG) (C : Nat → va_E) (p0 : Int) (y : Int) (f : Int → Int) (past : Int → Int) (tx : Int → Int) (k : Int) (ty : Int) (cap : Int) (hI : IW g C f k past ty tx) (hP : PW cap f k past ty tx) (h_p0 : -2147483648 ≤ p0 ∧ p0 < 2147483648) (h_y : -2147483648 ≤ y ∧ y < 2147483648) (hk9 : kSpl f p0 y ≠ 0) (hlt : l.stackTraces = false) : vx_Met l yX8_split wsX8_split ({ frames := 7, cells := 2, slots := 12, locals := 103 } : Room) (zPre g C [.ref (aD g 0), .int (iZ p0), .int (iZ y)]) (zQi g (fun z C' => False)) (zX g (fun E C' => IW g C' f k past ty tx ∧ zSame C C' ∧ ((E = "java/lang/IndexOutOfBoundsException" ∧ kSpl f p0 y = 1) ∨ (E = "java/lang/IllegalArgumentException" ∧ kSpl f p0 y = 2) ∨ (E = "java/lang/IllegalStateException" ∧ kSpl f p0 y = 3)))) 2 12 (zA g) := by
  refine z_enterX RX8 rfl (by decide) rfl (Nat.le_of_ble_eq_true rfl) ?_
  intro p e s m args below meth c K harg hne
  refine z_sub (lv' := [(0, .ref (aD g 0)), (1, .int (iZ p0)), (2, .int (iZ y))]) [0, 1, 2] rfl ?_
  have hI0 := hI
  obtain ⟨hB, hL, hV, hT, hH, hX⟩ := hI
  obtain ⟨hMa, hSp⟩ := id hB
  obtain ⟨num, pgs, cc, cn, cp, pn, pm, ⟨hSt, hEx, hNum, hPgs, hCi, hCc, hCn, hCp, hPr, hPc, hPm⟩, hR⟩ := id hL
  obtain ⟨vb, vt, vf, lt, lo, ⟨hVw, hVb, hVt, hVf, hLe, hLo⟩, hVR⟩ := id hV
  obtain ⟨tc, np, tp, hTr, hTn, hTp, hnp⟩ := id hT
  obtain ⟨cur, stp, pl, px, hTx, hXc, hXl, hXp, hpx⟩ := id hX
  obtain ⟨old, hHi, hHs, hho, -, -⟩ := id hH
  obtain ⟨hw, hk, hpst, hty, htxr, hrtx, hrp, hcap⟩ := id hP
  have hn := hw.n
  have hnx := hw.nx
  have hbp := hw.bp
  refine z_aload_n 1 K dX8_split_0 rfl rfl 0 rfl ?_
  refine z_get 4 K hin_X8_split_X8 0 (by decide) hMa rfl 0 (by decide) (by decide +kernel : Cond.fieldLink RX8 12 "BriefBuilder" "state" "LBriefBuilder$State;" ∈ wsX8_split) (fun _ h9 => h9) rfl dX8_split_1 rfl ?_
  refine z_get 7 K hin_X8_split_X4 1 (by decide) hSt rfl 0 (by decide) (by decide +kernel : Cond.fieldLink RX8 48 "BriefBuilder$State" "exhibits" "LBriefBuilder$Exhibits;" ∈ wsX8_split) (fun _ h9 => h9) rfl dX8_split_4 rfl ?_
  refine z_astore_n (lv' := [(3, .ref (aD g 2)), (0, .ref (aD g 0)), (1, .int (iZ p0)), (2, .int (iZ y))]) 8 K dX8_split_7 rfl rfl (by decide) rfl ?_
  refine z_aload_n 9 K dX8_split_8 rfl rfl 1 rfl ?_
  refine z_iload_n 10 K dX8_split_9 rfl rfl 2 rfl ?_
  refine z_xVv (As := [.int (iZ p0)]) (rest := []) 13 K 0 (by decide) hMa rfl rfl (m_X8_checkPlace l g _ p0 (f 1) (f 2) (f 0) hMa hSt hEx (by omega) (by omega) hlt) (cwV 1 K.1.2.2.2.2 gX8_split_X8_checkPlace rfl rfl rfl (by decide +kernel) ⟨Nat.le_of_ble_eq_true rfl, Nat.le_of_ble_eq_true rfl⟩) rfl (Nat.le_of_ble_eq_true rfl) dX8_split_10 rfl ⟨Nat.le_of_ble_eq_true rfl, Nat.le_of_ble_eq_true rfl⟩ rfl (fun E9 C9 hx9 => ?_) (fun C_2 hp_10 => ?_)
  · obtain ⟨hE9, rfl, hx9⟩ := hx9
    exact z_out hne K (Nat.le_of_ble_eq_true rfl) (Nat.le_of_ble_eq_true rfl) ⟨hI0, zSame_rf _, Or.inl ⟨hE9, (by unfold kSpl; repeat (first | omega | split))⟩⟩
  obtain ⟨hC_10, hc_10⟩ := hp_10
  refine z_C hC_10 ?_
  have hj1 := hR.ex p0 (by omega) (by omega)
  have hx1 := hw.ex p0 (by omega) (by omega)
  refine z_aload_n 14 K dX8_split_13 rfl rfl 0 rfl ?_
  refine z_get 17 K hin_X8_split_X1 2 (by decide) hEx rfl 1 (by decide) (by decide +kernel : Cond.fieldLink RX8 81 "BriefBuilder$Exhibits" "pages" "[I" ∈ wsX8_split) (fun _ h9 => h9) rfl dX8_split_14 rfl ?_
  refine z_iload_n 18 K dX8_split_17 rfl rfl 2 rfl ?_
  refine z_iald (f := pgs) 19 K 4 (by decide) hPgs (by omega) (by omega) (by decide) dX8_split_18 rfl ?_
  refine z_top (f (2 * p0 + 4)) hj1.2 ?_
  refine z_istore (lv' := [(4, .int (iZ (f (2 * p0 + 4)))), (3, .ref (aD g 2)), (0, .ref (aD g 0)), (1, .int (iZ p0)), (2, .int (iZ y))]) 21 K dX8_split_19 rfl (by decide) rfl ?_
  refine z_iload_n 22 K dX8_split_21 rfl rfl 4 rfl ?_
  refine z_iconst 23 K dX8_split_22 rfl ?_
  refine z_icmp_lt (tgt := 32) 26 K dX8_split_23 rfl (by decide) (by omega) (by decide) (fun c_23 => ?_) (fun c_23 => ?_)
  · skip
    exact z_throw hne K hlt (cls := "java/lang/IllegalArgumentException") (text := "the exhibit can't be split behind this page") (names := ["java/lang/RuntimeException", "java/lang/Exception"]) (by decide +kernel) (by decide +kernel) (by decide +kernel) (by decide +kernel) (by decide +kernel) hat1_X8_split_32 at_IA_2 at_IA_g dX8_split_32 dX8_split_35 dX8_split_36 dX8_split_38 dX8_split_41 (Nat.le_of_ble_eq_true rfl) (Nat.le_of_ble_eq_true rfl) (Nat.le_of_ble_eq_true rfl) (Nat.le_of_ble_eq_true rfl) (Nat.le_of_ble_eq_true rfl) (Nat.le_of_ble_eq_true rfl) ⟨hI0, zSame_rf _, Or.inr (Or.inl ⟨rfl, (by unfold kSpl; repeat (first | omega | split))⟩)⟩
  · skip
    refine z_iload_n 27 K dX8_split_26 rfl rfl 4 rfl ?_
    refine z_iload 29 K dX8_split_27 rfl 0 rfl ?_
    refine z_icmp_lt (tgt := 42) 32 K dX8_split_29 rfl (by decide) (by omega) (by omega) (fun c_29 => ?_) (fun c_29 => ?_)
    · skip
      refine z_aload_n 43 K dX8_split_42 rfl rfl 2 rfl ?_
      refine z_xVv (As := []) (rest := []) 46 K 0 (by decide) hMa rfl rfl (m_X8_checkRoomForExhibit l g _ (f 1) (f 2) (f 0) hMa hSt hEx (by omega) hlt) (cwV 0 K.1.2.2.2.2 gX8_split_X8_checkRoomForExhibit rfl rfl rfl (by decide +kernel) ⟨Nat.le_of_ble_eq_true rfl, Nat.le_of_ble_eq_true rfl⟩) rfl (Nat.le_of_ble_eq_true rfl) dX8_split_43 rfl ⟨by simp only []; omega, by simp only []; omega⟩ rfl (fun E9 C9 hx9 => ?_) (fun C_4 hp_43 => ?_)
      · obtain ⟨hE9, rfl, hx9⟩ := hx9
        exact z_out hne K (Nat.le_of_ble_eq_true rfl) (Nat.le_of_ble_eq_true rfl) ⟨hI0, zSame_rf _, Or.inr (Or.inr (⟨hE9, (by unfold kSpl; repeat (first | omega | split))⟩))⟩
      obtain ⟨hC_43, hc_43⟩ := hp_43
      refine z_C hC_43 ?_
      exact absurd (by unfold kSpl; repeat (first | omega | split)) hk9
    · skip
      exact z_throw hne K hlt (cls := "java/lang/IllegalArgumentException") (text := "the exhibit can't be split behind this page") (names := ["java/lang/RuntimeException", "java/lang/Exception"]) (by decide +kernel) (by decide +kernel) (by decide +kernel) (by decide +kernel) (by decide +kernel) hat1_X8_split_32 at_IA_2 at_IA_g dX8_split_32 dX8_split_35 dX8_split_36 dX8_split_38 dX8_split_41 (Nat.le_of_ble_eq_true rfl) (Nat.le_of_ble_eq_true rfl) (Nat.le_of_ble_eq_true rfl) (Nat.le_of_ble_eq_true rfl) (Nat.le_of_ble_eq_true rfl) (Nat.le_of_ble_eq_true rfl) ⟨hI0, zSame_rf _, Or.inr (Or.inl ⟨rfl, (by unfold kSpl; repeat (first | omega | split))⟩)⟩
set_option maxHeartbeats 4000000 in
set_option maxRecDepth 100000 in
theorem a_X8_split (l : Launch) (g : zG) (C : Nat → va_E) (p0 : Int) (y : Int) (f : Int → Int) (past : Int → Int) (tx : Int → Int) (k : Int) (ty : Int) (cap : Int) (hI : IW g C f k past ty tx) (hP : PW cap f k past ty tx) (h_p0 : -2147483648 ≤ p0 ∧ p0 < 2147483648) (h_y : -2147483648 ≤ y ∧ y < 2147483648) (hk9 : kSpl f p0 y = 0) : Met l yX8_split wsX8_split ({ frames := 4, cells := 0, slots := 0, locals := 103 } : Room) (zPre g C [.ref (aD g 0), .int (iZ p0), .int (iZ y)]) (zQi g (fun z C' => IW g C' (mSplit f p0 y) (mKp k + 1) (mSav f past k) ty tx ∧ zSame C C' ∧ z = f 2)) 0 0 (zA g) := by
  refine z_enter RX8 rfl (by decide) rfl (Nat.le_of_ble_eq_true rfl) ?_
  intro p e s m args below meth c K harg
  refine z_sub (lv' := [(0, .ref (aD g 0)), (1, .int (iZ p0)), (2, .int (iZ y))]) [0, 1, 2] rfl ?_
  have hI0 := hI
  obtain ⟨hB, hL, hV, hT, hH, hX⟩ := hI
  obtain ⟨hMa, hSp⟩ := id hB
  obtain ⟨num, pgs, cc, cn, cp, pn, pm, ⟨hSt, hEx, hNum, hPgs, hCi, hCc, hCn, hCp, hPr, hPc, hPm⟩, hR⟩ := id hL
  obtain ⟨vb, vt, vf, lt, lo, ⟨hVw, hVb, hVt, hVf, hLe, hLo⟩, hVR⟩ := id hV
  obtain ⟨tc, np, tp, hTr, hTn, hTp, hnp⟩ := id hT
  obtain ⟨cur, stp, pl, px, hTx, hXc, hXl, hXp, hpx⟩ := id hX
  obtain ⟨old, hHi, hHs, hho, -, -⟩ := id hH
  obtain ⟨hw, hk, hpst, hty, htxr, hrtx, hrp, hcap⟩ := id hP
  have hn := hw.n
  have hnx := hw.nx
  have hbp := hw.bp
  have hq : (0 ≤ p0 ∧ p0 < f 1) ∧ (1 ≤ y ∧ y < f (2 * p0 + 4)) ∧ f 1 ≤ 29 := by
    unfold kSpl at hk9
    repeat (first | omega | split at hk9)
  have hj1 := hR.ex p0 (by omega) (by omega)
  have hx1 := hw.ex p0 (by omega) (by omega)
  refine z_aload_n 1 K dX8_split_0 rfl rfl 0 rfl ?_
  refine z_get 4 K hin_X8_split_X8 0 (by decide) hMa rfl 0 (by decide) (by decide +kernel : Cond.fieldLink RX8 12 "BriefBuilder" "state" "LBriefBuilder$State;" ∈ wsX8_split) (fun _ h9 => h9) rfl dX8_split_1 rfl ?_
  refine z_get 7 K hin_X8_split_X4 1 (by decide) hSt rfl 0 (by decide) (by decide +kernel : Cond.fieldLink RX8 48 "BriefBuilder$State" "exhibits" "LBriefBuilder$Exhibits;" ∈ wsX8_split) (fun _ h9 => h9) rfl dX8_split_4 rfl ?_
  refine z_astore_n (lv' := [(3, .ref (aD g 2)), (0, .ref (aD g 0)), (1, .int (iZ p0)), (2, .int (iZ y))]) 8 K dX8_split_7 rfl rfl (by decide) rfl ?_
  refine z_aload_n 9 K dX8_split_8 rfl rfl 1 rfl ?_
  refine z_iload_n 10 K dX8_split_9 rfl rfl 2 rfl ?_
  refine z_vVv (As := [.int (iZ p0)]) (rest := []) 13 K 0 (by decide) hMa rfl rfl (n_X8_checkPlace l g _ p0 (f 1) (f 2) (f 0) hMa hSt hEx (by omega) (by omega) (by omega)) (cwV 1 K.1.2.2.2.2 gX8_split_X8_checkPlace rfl rfl rfl (by decide +kernel) ⟨Nat.le_of_ble_eq_true rfl, Nat.le_of_ble_eq_true rfl⟩) rfl (Nat.le_of_ble_eq_true rfl) dX8_split_10 rfl ⟨Nat.le_of_ble_eq_true rfl, Nat.le_of_ble_eq_true rfl⟩ rfl (fun C_2 hp_10 => ?_)
  refine z_C hp_10 ?_
  refine z_aload_n 14 K dX8_split_13 rfl rfl 0 rfl ?_
  refine z_get 17 K hin_X8_split_X1 2 (by decide) hEx rfl 1 (by decide) (by decide +kernel : Cond.fieldLink RX8 81 "BriefBuilder$Exhibits" "pages" "[I" ∈ wsX8_split) (fun _ h9 => h9) rfl dX8_split_14 rfl ?_
  refine z_iload_n 18 K dX8_split_17 rfl rfl 2 rfl ?_
  refine z_iald (f := pgs) 19 K 4 (by decide) hPgs (by omega) (by omega) (by decide) dX8_split_18 rfl ?_
  refine z_top (f (2 * p0 + 4)) hj1.2 ?_
  refine z_istore (lv' := [(4, .int (iZ (f (2 * p0 + 4)))), (3, .ref (aD g 2)), (0, .ref (aD g 0)), (1, .int (iZ p0)), (2, .int (iZ y))]) 21 K dX8_split_19 rfl (by decide) rfl ?_
  refine z_iload_n 22 K dX8_split_21 rfl rfl 4 rfl ?_
  refine z_iconst 23 K dX8_split_22 rfl ?_
  refine z_icmp_lt (tgt := 32) 26 K dX8_split_23 rfl (by decide) (by omega) (by decide) (fun c_23 => ?_) (fun c_23 => ?_)
  · skip
    exact absurd hq (by omega)
  · skip
    refine z_iload_n 27 K dX8_split_26 rfl rfl 4 rfl ?_
    refine z_iload 29 K dX8_split_27 rfl 0 rfl ?_
    refine z_icmp_lt (tgt := 42) 32 K dX8_split_29 rfl (by decide) (by omega) (by omega) (fun c_29 => ?_) (fun c_29 => ?_)
    · skip
      refine z_aload_n 43 K dX8_split_42 rfl rfl 2 rfl ?_
      refine z_vVv (As := []) (rest := []) 46 K 0 (by decide) hMa rfl rfl (n_X8_checkRoomForExhibit l g _ (f 1) (f 2) (f 0) hMa hSt hEx (by omega) (by omega)) (cwV 0 K.1.2.2.2.2 gX8_split_X8_checkRoomForExhibit rfl rfl rfl (by decide +kernel) ⟨Nat.le_of_ble_eq_true rfl, Nat.le_of_ble_eq_true rfl⟩) rfl (Nat.le_of_ble_eq_true rfl) dX8_split_43 rfl ⟨Nat.le_of_ble_eq_true rfl, Nat.le_of_ble_eq_true rfl⟩ rfl (fun C_4 hp_43 => ?_)
      refine z_C hp_43 ?_
      refine z_aload_n 47 K dX8_split_46 rfl rfl 2 rfl ?_
      refine z_get 50 K hin_X8_split_X8 0 (by decide) hMa rfl 3 (by decide) (by decide +kernel : Cond.fieldLink RX8 33 "BriefBuilder" "history" "LBriefBuilder$History;" ∈ wsX8_split) (fun _ h9 => h9) rfl dX8_split_47 rfl ?_
      refine z_aload_n 51 K dX8_split_50 rfl rfl 2 rfl ?_
      refine z_get 54 K hin_X8_split_X8 0 (by decide) hMa rfl 0 (by decide) (by decide +kernel : Cond.fieldLink RX8 12 "BriefBuilder" "state" "LBriefBuilder$State;" ∈ wsX8_split) (fun _ h9 => h9) rfl dX8_split_51 rfl ?_
      refine z_vVv (As := [.ref (aD g 1)]) (rest := []) 57 K 21 (by decide) hHi rfl rfl (s_X2_save l g _ f past k cap hH hL hk hw hpst) (cwV 1 K.1.2.2.2.2 gX8_split_X2_save rfl rfl rfl (by decide +kernel) ⟨Nat.le_of_ble_eq_true rfl, Nat.le_of_ble_eq_true rfl⟩) rfl (Nat.le_of_ble_eq_true rfl) dX8_split_54 rfl ⟨Nat.le_of_ble_eq_true rfl, Nat.le_of_ble_eq_true rfl⟩ rfl (fun C_6 hp_54 => ?_)
      obtain ⟨hHn_54, hsm_54⟩ := hp_54
      have hf_54_0 : C_6 0 = .inr (8, [.ref (aD g 1), .ref (aD g 12), .ref (aD g 18), .ref (aD g 21), .ref (aD g 23), .ref (aD g 27)]) := (hsm_54 0 (by omega)).trans hMa
      have hf_54_27 : C_6 27 = eI g 30 (fun k => k) := (hsm_54 27 (by omega)).trans hSp
      have hf_54_1 : C_6 1 = .inr (4, [.ref (aD g 2), .ref (aD g 5), .ref (aD g 9)]) := (hsm_54 1 (by omega)).trans hSt
      have hf_54_2 : C_6 2 = .inr (1, [.ref (aD g 3), .ref (aD g 4), .int (iZ (f 1)), .int (iZ (f 2)), .int (iZ (f 0))]) := (hsm_54 2 (by omega)).trans hEx
      have hf_54_3 : C_6 3 = eI g 30 num := (hsm_54 3 (by omega)).trans hNum
      have hf_54_4 : C_6 4 = eI g 30 pgs := (hsm_54 4 (by omega)).trans hPgs
      have hf_54_5 : C_6 5 = .inr (0, [.ref (aD g 6), .ref (aD g 7), .ref (aD g 8)]) := (hsm_54 5 (by omega)).trans hCi
      have hf_54_6 : C_6 6 = eI g 12 cc := (hsm_54 6 (by omega)).trans hCc
      have hf_54_7 : C_6 7 = eI g 72 cn := (hsm_54 7 (by omega)).trans hCn
      have hf_54_8 : C_6 8 = eI g 72 cp := (hsm_54 8 (by omega)).trans hCp
      have hf_54_9 : C_6 9 = .inr (3, [.ref (aD g 10), .ref (aD g 11)]) := (hsm_54 9 (by omega)).trans hPr
      have hf_54_10 : C_6 10 = eI g 12 pn := (hsm_54 10 (by omega)).trans hPc
      have hf_54_11 : C_6 11 = eI g 72 pm := (hsm_54 11 (by omega)).trans hPm
      have hf_54_12 : C_6 12 = .inr (7, [.ref (aD g 13), .ref (aD g 14), .ref (aD g 15), .ref (aD g 16), .ref (aD g 17), .int (iZ (sBds f))]) := (hsm_54 12 (by omega)).trans hVw
      have hf_54_13 : C_6 13 = eI g 30 vb := (hsm_54 13 (by omega)).trans hVb
      have hf_54_14 : C_6 14 = eI g 30 vt := (hsm_54 14 (by omega)).trans hVt
      have hf_54_15 : C_6 15 = eI g 30 vf := (hsm_54 15 (by omega)).trans hVf
      have hf_54_16 : C_6 16 = eI g 72 lt := (hsm_54 16 (by omega)).trans hLe
      have hf_54_17 : C_6 17 = eZ g 72 lo := (hsm_54 17 (by omega)).trans hLo
      have hf_54_18 : C_6 18 = .inr (6, [.ref (aD g 19), .ref (aD g 20), .int (iZ tc)]) := (hsm_54 18 (by omega)).trans hTr
      have hf_54_19 : C_6 19 = eI g 30 np := (hsm_54 19 (by omega)).trans hTn
      have hf_54_20 : C_6 20 = eI g 31 tp := (hsm_54 20 (by omega)).trans hTp
      have hf_54_22 : C_6 22 = eS g 6 (fun k => some (aD g (28 + 11 * k))) := (hsm_54 22 (by omega)).trans hHs
      have hf_54_23 : C_6 23 = .inr (5, [.ref (aD g 24), .int (iZ ty), .ref (aD g 25), .ref (aD g 26), .int (iZ cur), .int (iZ stp)]) := (hsm_54 23 (by omega)).trans hTx
      have hf_54_24 : C_6 24 = eI g 60 tx := (hsm_54 24 (by omega)).trans hXc
      have hf_54_25 : C_6 25 = eI g 6 pl := (hsm_54 25 (by omega)).trans hXl
      have hf_54_26 : C_6 26 = eI g 6 px := (hsm_54 26 (by omega)).trans hXp
      have hB2 := wB_cong hB (fun q hq => hsm_54 q (by omega))
      have hT2 := wT_cong hT (fun q hq => hsm_54 q (by omega))
      have hX2 := wX_cong hX (fun q hq => hsm_54 q (by omega))
      refine z_aload_n 58 K dX8_split_57 rfl rfl 1 rfl ?_
      refine z_iload_n 59 K dX8_split_58 rfl rfl 3 rfl ?_
      refine z_iconst 60 K dX8_split_59 rfl ?_
      refine z_iadd 61 K dX8_split_60 rfl ?_
      refine z_iload 63 K dX8_split_61 rfl 0 rfl ?_
      refine z_iload_n 64 K dX8_split_63 rfl rfl 4 rfl ?_
      refine z_isub 65 K dX8_split_64 rfl ?_
      refine z_vVi (As := [.int (iZ (p0 + 1)), .int (iZ (f (2 * p0 + 4) - y))]) (rest := []) 68 K 2 (by decide) hf_54_2 rfl rfl (m_X1_putNew l g _ (p0 + 1) (f (2 * p0 + 4) - y) (f 1) (f 2) (f 0) num pgs hf_54_2 hf_54_3 hf_54_4 (by omega) (by omega)) (cwV 2 K.1.2.2.2.2 gX8_split_X1_putNew rfl rfl rfl (by decide +kernel) ⟨Nat.le_of_ble_eq_true rfl, Nat.le_of_ble_eq_true rfl⟩) rfl (Nat.le_of_ble_eq_true rfl) dX8_split_65 rfl ⟨Nat.le_of_ble_eq_true rfl, Nat.le_of_ble_eq_true rfl⟩ rfl (fun z_7 C_8 hp_65 => ?_)
      refine z_C hp_65.1 ?_
      refine z_top (f 2) hp_65.2 ?_
      refine z_istore (lv' := [(5, .int (iZ (f 2))), (4, .int (iZ (f (2 * p0 + 4)))), (3, .ref (aD g 2)), (0, .ref (aD g 0)), (1, .int (iZ p0)), (2, .int (iZ y))]) 70 K dX8_split_68 rfl (by decide) rfl ?_
      refine z_aload_n 71 K dX8_split_70 rfl rfl 2 rfl ?_
      refine z_get 74 K hin_X8_split_X1 2 (by decide) (va_up_eq _ 2 _) rfl 1 (by decide) (by decide +kernel : Cond.fieldLink RX8 81 "BriefBuilder$Exhibits" "pages" "[I" ∈ wsX8_split) (fun _ h9 => h9) rfl dX8_split_71 rfl ?_
      refine z_iload_n 75 K dX8_split_74 rfl rfl 4 rfl ?_
      refine z_iload_n 76 K dX8_split_75 rfl rfl 5 rfl ?_
      refine z_iast (f := (zIn pgs (f 1) (p0 + 1) (f (2 * p0 + 4) - y))) 77 K 4 (by decide) ((va_up_ne _ _ (by decide)).trans (va_up_eq _ 4 _)) (by omega) (by omega) (by decide) dX8_split_76 rfl ?_
      refine z_C (va_uu1 (by decide)) ?_
      refine z_aload_n 78 K dX8_split_77 rfl rfl 3 rfl ?_
      refine z_get 81 K hin_X8_split_X8 0 (by decide) ((va_up_ne _ _ (by decide)).trans ((va_up_ne _ _ (by decide)).trans ((va_up_ne _ _ (by decide)).trans hf_54_0))) rfl 0 (by decide) (by decide +kernel : Cond.fieldLink RX8 12 "BriefBuilder" "state" "LBriefBuilder$State;" ∈ wsX8_split) (fun _ h9 => h9) rfl dX8_split_78 rfl ?_
      refine z_get 84 K hin_X8_split_X4 1 (by decide) ((va_up_ne _ _ (by decide)).trans ((va_up_ne _ _ (by decide)).trans ((va_up_ne _ _ (by decide)).trans hf_54_1))) rfl 1 (by decide) (by decide +kernel : Cond.fieldLink RX8 111 "BriefBuilder$State" "citations" "LBriefBuilder$Citations;" ∈ wsX8_split) (fun _ h9 => h9) rfl dX8_split_81 rfl ?_
      refine z_aload_n 85 K dX8_split_84 rfl rfl 2 rfl ?_
      refine z_get 88 K hin_X8_split_X1 2 (by decide) ((va_up_ne _ _ (by decide)).trans (va_up_eq _ 2 _)) rfl 0 (by decide) (by decide +kernel : Cond.fieldLink RX8 78 "BriefBuilder$Exhibits" "numbers" "[I" ∈ wsX8_split) (fun _ h9 => h9) rfl dX8_split_85 rfl ?_
      refine z_iload_n 89 K dX8_split_88 rfl rfl 4 rfl ?_
      refine z_iald (f := (zIn num (f 1) (p0 + 1) (f 2))) 90 K 3 (by decide) ((va_up_ne _ _ (by decide)).trans ((va_up_ne _ _ (by decide)).trans (va_up_eq _ 3 _))) (by omega) (by omega) (by decide) dX8_split_89 rfl ?_
      refine z_top (f (2 * p0 + 3)) (by unfold zIn; rw [if_neg (by omega), if_neg (by omega)]; exact hj1.1) ?_
      refine z_iload 92 K dX8_split_90 rfl 0 rfl ?_
      refine z_iload_n 93 K dX8_split_92 rfl rfl 5 rfl ?_
      refine z_vVv (As := [.int (iZ (f (2 * p0 + 3))), .int (iZ (f 2)), .int (iZ y)]) (rest := []) 96 K 5 (by decide) ((va_up_ne _ _ (by decide)).trans ((va_up_ne _ _ (by decide)).trans ((va_up_ne _ _ (by decide)).trans hf_54_5))) rfl rfl (m_X0_followSplit l g _ (f (2 * p0 + 3)) (f 2) y cc cn cp ((va_up_ne _ _ (by decide)).trans ((va_up_ne _ _ (by decide)).trans ((va_up_ne _ _ (by decide)).trans hf_54_5))) ((va_up_ne _ _ (by decide)).trans ((va_up_ne _ _ (by decide)).trans ((va_up_ne _ _ (by decide)).trans hf_54_6))) ((va_up_ne _ _ (by decide)).trans ((va_up_ne _ _ (by decide)).trans ((va_up_ne _ _ (by decide)).trans hf_54_7))) ((va_up_ne _ _ (by decide)).trans ((va_up_ne _ _ (by decide)).trans ((va_up_ne _ _ (by decide)).trans hf_54_8))) (hR.hcc hw) hR.r2 (by omega) (by omega) (hR.hcp hw)) (cwV 3 K.1.2.2.2.2 gX8_split_X0_followSplit rfl rfl rfl (by decide +kernel) ⟨Nat.le_of_ble_eq_true rfl, Nat.le_of_ble_eq_true rfl⟩) rfl (Nat.le_of_ble_eq_true rfl) dX8_split_93 rfl ⟨Nat.le_of_ble_eq_true rfl, Nat.le_of_ble_eq_true rfl⟩ rfl (fun C_10 hp_93 => ?_)
      refine z_C hp_93 ?_
      refine z_aload_n 97 K dX8_split_96 rfl rfl 3 rfl ?_
      refine z_get 100 K hin_X8_split_X8 0 (by decide) ((va_up_ne _ _ (by decide)).trans ((va_up_ne _ _ (by decide)).trans ((va_up_ne _ _ (by decide)).trans ((va_up_ne _ _ (by decide)).trans ((va_up_ne _ _ (by decide)).trans hf_54_0))))) rfl 1 (by decide) (by decide +kernel : Cond.fieldLink RX8 19 "BriefBuilder" "view" "LBriefBuilder$View;" ∈ wsX8_split) (fun _ h9 => h9) rfl dX8_split_97 rfl ?_
      refine z_aload_n 101 K dX8_split_100 rfl rfl 3 rfl ?_
      refine z_get 104 K hin_X8_split_X8 0 (by decide) ((va_up_ne _ _ (by decide)).trans ((va_up_ne _ _ (by decide)).trans ((va_up_ne _ _ (by decide)).trans ((va_up_ne _ _ (by decide)).trans ((va_up_ne _ _ (by decide)).trans hf_54_0))))) rfl 0 (by decide) (by decide +kernel : Cond.fieldLink RX8 12 "BriefBuilder" "state" "LBriefBuilder$State;" ∈ wsX8_split) (fun _ h9 => h9) rfl dX8_split_101 rfl ?_
      have hw2 : WF (mSplit f p0 y) (cap + 1) := WF_split hw (by omega) (by omega) (by omega) (by omega)
      have hR2 : RS (mSplit f p0 y) (zIn num (f 1) (p0 + 1) (f 2)) (zu (zIn pgs (f 1) (p0 + 1) (f (2 * p0 + 4) - y)) p0 y) cc (iFn cc cn cp (fun z9 => decide (y < z9)) (f (2 * p0 + 3)) (f 2) 72) (iFp cc cn cp (fun z9 => decide (y < z9)) (f (2 * p0 + 3)) (-y) 72) pn pm := (by have q := RS_fol (x := f (2 * p0 + 3)) (x2 := f 2) (fr := y + 1) (mo := -y) (P := fun z => decide (y < z)) hR hw (fun z z0 z1 => by rw [decide_eq_true_iff]; omega) (by omega); have e9 : mFol f (f (2 * p0 + 3)) (f 2) (y + 1) (-y) 1 = f 1 := mFol_lo (by omega); have e8 : mFol f (f (2 * p0 + 3)) (f 2) (y + 1) (-y) 2 = f 2 := mFol_lo (by omega); have q2 := RS_come (p := p0 + 1) (y := f (2 * p0 + 4) - y) q (by rw [e9]; omega) (by rw [e9]; omega) (by rw [e8]; omega); rw [e9, e8] at q2; exact RS_pages q2 (by rw [(mCome_012 _ (by omega)).1, e9]; omega) (by rw [(mCome_012 _ (by omega)).1, e9]; omega))
      have e1 : f 1 + 1 = (mSplit f p0 y) 1 := (mSplit_012 f (by omega)).1.symm
      have e2 : f 2 + 1 = (mSplit f p0 y) 2 := (mSplit_012 f (by omega)).2.1.symm
      have e3 : f 0 = (mSplit f p0 y) 0 := (mSplit_012 f (by omega)).2.2.symm
      have hpg2 : ∀ j, 0 ≤ j → j < f 1 + 1 → 0 ≤ (zu (zIn pgs (f 1) (p0 + 1) (f (2 * p0 + 4) - y)) p0 y) j ∧ (zu (zIn pgs (f 1) (p0 + 1) (f (2 * p0 + 4) - y)) p0 y) j ≤ 60 := by
        intro j j0 j1
        rw [e1] at j1
        exact hR2.hpg hw2 j j0 j1
      have hbp2 := hw2.bp
      have hn2 := hw2.n
      refine z_vVv (As := [.ref (aD g 1)]) (rest := []) 107 K 12 (by decide) ((va_up_ne _ _ (by decide)).trans ((va_up_ne _ _ (by decide)).trans ((va_up_ne _ _ (by decide)).trans ((va_up_ne _ _ (by decide)).trans ((va_up_ne _ _ (by decide)).trans hf_54_12))))) rfl rfl (m_X7_follow l g _ (sBds f) vb vt vf lt lo (f 1 + 1) (f 2 + 1) (f 0) (zIn num (f 1) (p0 + 1) (f 2)) (zu (zIn pgs (f 1) (p0 + 1) (f (2 * p0 + 4) - y)) p0 y) cc (iFn cc cn cp (fun z9 => decide (y < z9)) (f (2 * p0 + 3)) (f 2) 72) (iFp cc cn cp (fun z9 => decide (y < z9)) (f (2 * p0 + 3)) (-y) 72) ((va_up_ne _ _ (by decide)).trans ((va_up_ne _ _ (by decide)).trans ((va_up_ne _ _ (by decide)).trans ((va_up_ne _ _ (by decide)).trans ((va_up_ne _ _ (by decide)).trans hf_54_12))))) ((va_up_ne _ _ (by decide)).trans ((va_up_ne _ _ (by decide)).trans ((va_up_ne _ _ (by decide)).trans ((va_up_ne _ _ (by decide)).trans ((va_up_ne _ _ (by decide)).trans hf_54_13))))) ((va_up_ne _ _ (by decide)).trans ((va_up_ne _ _ (by decide)).trans ((va_up_ne _ _ (by decide)).trans ((va_up_ne _ _ (by decide)).trans ((va_up_ne _ _ (by decide)).trans hf_54_14))))) ((va_up_ne _ _ (by decide)).trans ((va_up_ne _ _ (by decide)).trans ((va_up_ne _ _ (by decide)).trans ((va_up_ne _ _ (by decide)).trans ((va_up_ne _ _ (by decide)).trans hf_54_15))))) ((va_up_ne _ _ (by decide)).trans ((va_up_ne _ _ (by decide)).trans ((va_up_ne _ _ (by decide)).trans ((va_up_ne _ _ (by decide)).trans ((va_up_ne _ _ (by decide)).trans hf_54_16))))) ((va_up_ne _ _ (by decide)).trans ((va_up_ne _ _ (by decide)).trans ((va_up_ne _ _ (by decide)).trans ((va_up_ne _ _ (by decide)).trans ((va_up_ne _ _ (by decide)).trans hf_54_17))))) ((va_up_ne _ _ (by decide)).trans ((va_up_ne _ _ (by decide)).trans ((va_up_ne _ _ (by decide)).trans ((va_up_ne _ _ (by decide)).trans ((va_up_ne _ _ (by decide)).trans hf_54_1))))) ((va_up_ne _ _ (by decide)).trans ((va_up_ne _ _ (by decide)).trans ((va_up_ne _ _ (by decide)).trans (va_up_eq _ 2 _)))) ((va_up_ne _ _ (by decide)).trans ((va_up_ne _ _ (by decide)).trans ((va_up_ne _ _ (by decide)).trans ((va_up_ne _ _ (by decide)).trans (va_up_eq _ 3 _))))) ((va_up_ne _ _ (by decide)).trans ((va_up_ne _ _ (by decide)).trans (va_up_eq _ 4 _))) ((va_up_ne _ _ (by decide)).trans ((va_up_ne _ _ (by decide)).trans ((va_up_ne _ _ (by decide)).trans ((va_up_ne _ _ (by decide)).trans ((va_up_ne _ _ (by decide)).trans hf_54_5))))) ((va_up_ne _ _ (by decide)).trans ((va_up_ne _ _ (by decide)).trans ((va_up_ne _ _ (by decide)).trans ((va_up_ne _ _ (by decide)).trans ((va_up_ne _ _ (by decide)).trans hf_54_6))))) ((va_up_ne _ _ (by decide)).trans (va_up_eq _ 7 _)) (va_up_eq _ 8 _) (by omega) (by omega) hpg2 (hR2.hcc hw2) hVR.2.2.1 hVR.2.2.2 hR2.r1 hR2.r2 (hR2.hcp hw2)) (cwV 1 K.1.2.2.2.2 gX8_split_X7_follow rfl rfl rfl (by decide +kernel) ⟨Nat.le_of_ble_eq_true rfl, Nat.le_of_ble_eq_true rfl⟩) rfl (Nat.le_of_ble_eq_true rfl) dX8_split_104 rfl ⟨Nat.le_of_ble_eq_true rfl, Nat.le_of_ble_eq_true rfl⟩ rfl (fun C_12 hp_104 => ?_)
      obtain ⟨w13_13, w14_14, w15_15, w16_16, w17_17, hC_104, hvf_104, hcf_104, hl16_104, hl17_104⟩ := hp_104
      refine z_C hC_104 ?_
      refine z_iload 109 K dX8_split_107 rfl 0 rfl ?_
      exact z_iret K rfl dX8_split_109 ⟨IW_mk hB2 hT2 hX2 hHn_54 (fun q hq => ((va_up_ne _ _ (by omega)).trans ((va_up_ne _ _ (by omega)).trans ((va_up_ne _ _ (by omega)).trans ((va_up_ne _ _ (by omega)).trans ((va_up_ne _ _ (by omega)).trans ((va_up_ne _ _ (by omega)).trans ((va_up_ne _ _ (by omega)).trans ((va_up_ne _ _ (by omega)).trans ((va_up_ne _ _ (by omega)).trans ((va_up_ne _ _ (by omega)).trans ((va_up_ne _ _ (by omega)).trans rfl)))))))))))) ⟨((va_up_ne _ _ (by decide)).trans ((va_up_ne _ _ (by decide)).trans ((va_up_ne _ _ (by decide)).trans ((va_up_ne _ _ (by decide)).trans ((va_up_ne _ _ (by decide)).trans ((va_up_ne _ _ (by decide)).trans ((va_up_ne _ _ (by decide)).trans ((va_up_ne _ _ (by decide)).trans ((va_up_ne _ _ (by decide)).trans ((va_up_ne _ _ (by decide)).trans ((va_up_ne _ _ (by decide)).trans hf_54_1))))))))))), ((va_up_ne _ _ (by decide)).trans ((va_up_ne _ _ (by decide)).trans ((va_up_ne _ _ (by decide)).trans ((va_up_ne _ _ (by decide)).trans ((va_up_ne _ _ (by decide)).trans ((va_up_ne _ _ (by decide)).trans ((va_up_ne _ _ (by decide)).trans ((va_up_ne _ _ (by decide)).trans ((va_up_ne _ _ (by decide)).trans (va_up_eq _ 2 _)))))))))), ((va_up_ne _ _ (by decide)).trans ((va_up_ne _ _ (by decide)).trans ((va_up_ne _ _ (by decide)).trans ((va_up_ne _ _ (by decide)).trans ((va_up_ne _ _ (by decide)).trans ((va_up_ne _ _ (by decide)).trans ((va_up_ne _ _ (by decide)).trans ((va_up_ne _ _ (by decide)).trans ((va_up_ne _ _ (by decide)).trans ((va_up_ne _ _ (by decide)).trans (va_up_eq _ 3 _))))))))))), ((va_up_ne _ _ (by decide)).trans ((va_up_ne _ _ (by decide)).trans ((va_up_ne _ _ (by decide)).trans ((va_up_ne _ _ (by decide)).trans ((va_up_ne _ _ (by decide)).trans ((va_up_ne _ _ (by decide)).trans ((va_up_ne _ _ (by decide)).trans ((va_up_ne _ _ (by decide)).trans (va_up_eq _ 4 _))))))))), ((va_up_ne _ _ (by decide)).trans ((va_up_ne _ _ (by decide)).trans ((va_up_ne _ _ (by decide)).trans ((va_up_ne _ _ (by decide)).trans ((va_up_ne _ _ (by decide)).trans ((va_up_ne _ _ (by decide)).trans ((va_up_ne _ _ (by decide)).trans ((va_up_ne _ _ (by decide)).trans ((va_up_ne _ _ (by decide)).trans ((va_up_ne _ _ (by decide)).trans ((va_up_ne _ _ (by decide)).trans hf_54_5))))))))))), ((va_up_ne _ _ (by decide)).trans ((va_up_ne _ _ (by decide)).trans ((va_up_ne _ _ (by decide)).trans ((va_up_ne _ _ (by decide)).trans ((va_up_ne _ _ (by decide)).trans ((va_up_ne _ _ (by decide)).trans ((va_up_ne _ _ (by decide)).trans ((va_up_ne _ _ (by decide)).trans ((va_up_ne _ _ (by decide)).trans ((va_up_ne _ _ (by decide)).trans ((va_up_ne _ _ (by decide)).trans hf_54_6))))))))))), ((va_up_ne _ _ (by decide)).trans ((va_up_ne _ _ (by decide)).trans ((va_up_ne _ _ (by decide)).trans ((va_up_ne _ _ (by decide)).trans ((va_up_ne _ _ (by decide)).trans ((va_up_ne _ _ (by decide)).trans ((va_up_ne _ _ (by decide)).trans (va_up_eq _ 7 _)))))))), ((va_up_ne _ _ (by decide)).trans ((va_up_ne _ _ (by decide)).trans ((va_up_ne _ _ (by decide)).trans ((va_up_ne _ _ (by decide)).trans ((va_up_ne _ _ (by decide)).trans ((va_up_ne _ _ (by decide)).trans (va_up_eq _ 8 _))))))), ((va_up_ne _ _ (by decide)).trans ((va_up_ne _ _ (by decide)).trans ((va_up_ne _ _ (by decide)).trans ((va_up_ne _ _ (by decide)).trans ((va_up_ne _ _ (by decide)).trans ((va_up_ne _ _ (by decide)).trans ((va_up_ne _ _ (by decide)).trans ((va_up_ne _ _ (by decide)).trans ((va_up_ne _ _ (by decide)).trans ((va_up_ne _ _ (by decide)).trans ((va_up_ne _ _ (by decide)).trans hf_54_9))))))))))), ((va_up_ne _ _ (by decide)).trans ((va_up_ne _ _ (by decide)).trans ((va_up_ne _ _ (by decide)).trans ((va_up_ne _ _ (by decide)).trans ((va_up_ne _ _ (by decide)).trans ((va_up_ne _ _ (by decide)).trans ((va_up_ne _ _ (by decide)).trans ((va_up_ne _ _ (by decide)).trans ((va_up_ne _ _ (by decide)).trans ((va_up_ne _ _ (by decide)).trans ((va_up_ne _ _ (by decide)).trans hf_54_10))))))))))), ((va_up_ne _ _ (by decide)).trans ((va_up_ne _ _ (by decide)).trans ((va_up_ne _ _ (by decide)).trans ((va_up_ne _ _ (by decide)).trans ((va_up_ne _ _ (by decide)).trans ((va_up_ne _ _ (by decide)).trans ((va_up_ne _ _ (by decide)).trans ((va_up_ne _ _ (by decide)).trans ((va_up_ne _ _ (by decide)).trans ((va_up_ne _ _ (by decide)).trans ((va_up_ne _ _ (by decide)).trans hf_54_11)))))))))))⟩ e1 e2 e3 hR2 hw2 ⟨((va_up_ne _ _ (by decide)).trans ((va_up_ne _ _ (by decide)).trans (va_up_eq _ 12 _))), ((va_up_ne _ _ (by decide)).trans ((va_up_ne _ _ (by decide)).trans ((va_up_ne _ _ (by decide)).trans ((va_up_ne _ _ (by decide)).trans ((va_up_ne _ _ (by decide)).trans (va_up_eq _ 13 _)))))), ((va_up_ne _ _ (by decide)).trans ((va_up_ne _ _ (by decide)).trans ((va_up_ne _ _ (by decide)).trans ((va_up_ne _ _ (by decide)).trans (va_up_eq _ 14 _))))), ((va_up_ne _ _ (by decide)).trans ((va_up_ne _ _ (by decide)).trans ((va_up_ne _ _ (by decide)).trans (va_up_eq _ 15 _)))), ((va_up_ne _ _ (by decide)).trans (va_up_eq _ 16 _)), (va_up_eq _ 17 _)⟩ rfl hvf_104 hcf_104 hl16_104 hl17_104, fun q hq => (((va_up_ne _ _ (by omega)).trans ((va_up_ne _ _ (by omega)).trans ((va_up_ne _ _ (by omega)).trans ((va_up_ne _ _ (by omega)).trans ((va_up_ne _ _ (by omega)).trans ((va_up_ne _ _ (by omega)).trans ((va_up_ne _ _ (by omega)).trans ((va_up_ne _ _ (by omega)).trans ((va_up_ne _ _ (by omega)).trans ((va_up_ne _ _ (by omega)).trans ((va_up_ne _ _ (by omega)).trans rfl)))))))))))).trans (hsm_54 q (by omega)), rfl⟩
    · skip
      exact absurd hq (by omega)
set_option maxRecDepth 20000 in
theorem hin_X8_cite_X0 : ∀ w ∈ wsX00, w ∈ wsX8_cite := by decide +kernel
set_option maxRecDepth 20000 in
theorem hin_X8_cite_X4 : ∀ w ∈ wsX40, w ∈ wsX8_cite := by decide +kernel
set_option maxRecDepth 20000 in
theorem hin_X8_cite_X8 : ∀ w ∈ wsX80, w ∈ wsX8_cite := by decide +kernel
set_option maxRecDepth 20000 in
theorem hat1_X8_cite_34 : ∀ w ∈ (vx_atS RX8 110 "java/lang/IllegalStateException" ["java/lang/RuntimeException", "java/lang/Exception"]).filter goodWord, w ∈ wsX8_cite := by decide +kernel
set_option maxHeartbeats 4000000 in
set_option maxRecDepth 100000 in
theorem x_X8_cite (l : Launch) (g : zG) (C : Nat → va_E) (a : Int) (p0 : Int) (y : Int) (f : Int → Int) (past : Int → Int) (tx : Int → Int) (k : Int) (ty : Int) (cap : Int) (hI : IW g C f k past ty tx) (hP : PW cap f k past ty tx) (h_a : -2147483648 ≤ a ∧ a < 2147483648) (h_p0 : -2147483648 ≤ p0 ∧ p0 < 2147483648) (h_y : -2147483648 ≤ y ∧ y < 2147483648) (hk9 : kCit f a p0 y ≠ 0) (hlt : l.stackTraces = false) : vx_Met l yX8_cite wsX8_cite ({ frames := 7, cells := 4, slots := 24, locals := 103 } : Room) (zPre g C [.ref (aD g 0), .int (iZ a), .int (iZ p0), .int (iZ y)]) (zQi g (fun z C' => False)) (zX g (fun E C' => IW g C' f k past ty tx ∧ zSame C C' ∧ ((E = "java/lang/IndexOutOfBoundsException" ∧ kCit f a p0 y = 1) ∨ (E = "java/lang/IllegalArgumentException" ∧ kCit f a p0 y = 2) ∨ (E = "java/lang/IllegalStateException" ∧ kCit f a p0 y = 3)))) 4 24 (zA g) := by
  refine z_enterX RX8 rfl (by decide) rfl (Nat.le_of_ble_eq_true rfl) ?_
  intro p e s m args below meth c K harg hne
  refine z_sub (lv' := [(0, .ref (aD g 0)), (1, .int (iZ a)), (2, .int (iZ p0)), (3, .int (iZ y))]) [0, 1, 2, 3] rfl ?_
  have hI0 := hI
  obtain ⟨hB, hL, hV, hT, hH, hX⟩ := hI
  obtain ⟨hMa, hSp⟩ := id hB
  obtain ⟨num, pgs, cc, cn, cp, pn, pm, ⟨hSt, hEx, hNum, hPgs, hCi, hCc, hCn, hCp, hPr, hPc, hPm⟩, hR⟩ := id hL
  obtain ⟨vb, vt, vf, lt, lo, ⟨hVw, hVb, hVt, hVf, hLe, hLo⟩, hVR⟩ := id hV
  obtain ⟨tc, np, tp, hTr, hTn, hTp, hnp⟩ := id hT
  obtain ⟨cur, stp, pl, px, hTx, hXc, hXl, hXp, hpx⟩ := id hX
  obtain ⟨old, hHi, hHs, hho, -, -⟩ := id hH
  obtain ⟨hw, hk, hpst, hty, htxr, hrtx, hrp, hcap⟩ := id hP
  have hn := hw.n
  have hnx := hw.nx
  have hbp := hw.bp
  refine z_aload_n 1 K dX8_cite_0 rfl rfl 0 rfl ?_
  refine z_get 4 K hin_X8_cite_X8 0 (by decide) hMa rfl 0 (by decide) (by decide +kernel : Cond.fieldLink RX8 12 "BriefBuilder" "state" "LBriefBuilder$State;" ∈ wsX8_cite) (fun _ h9 => h9) rfl dX8_cite_1 rfl ?_
  refine z_get 7 K hin_X8_cite_X4 1 (by decide) hSt rfl 1 (by decide) (by decide +kernel : Cond.fieldLink RX8 111 "BriefBuilder$State" "citations" "LBriefBuilder$Citations;" ∈ wsX8_cite) (fun _ h9 => h9) rfl dX8_cite_4 rfl ?_
  refine z_astore (lv' := [(4, .ref (aD g 5)), (0, .ref (aD g 0)), (1, .int (iZ a)), (2, .int (iZ p0)), (3, .int (iZ y))]) 9 K dX8_cite_7 rfl (by decide) rfl ?_
  refine z_iload_n 10 K dX8_cite_9 rfl rfl 2 rfl ?_
  refine z_xSv (As := [.int (iZ a)]) (rest := []) 13 K (m_X8_checkParagraph l g _ a (by omega) hlt) (va_cwS 1 K.1.2.2.2.2 gX8_cite_X8_checkParagraph rfl rfl rfl (by decide +kernel) ⟨Nat.le_of_ble_eq_true rfl, Nat.le_of_ble_eq_true rfl⟩) rfl (Nat.le_of_ble_eq_true rfl) dX8_cite_10 rfl ⟨Nat.le_of_ble_eq_true rfl, Nat.le_of_ble_eq_true rfl⟩ rfl (fun E9 C9 hx9 => ?_) (fun C_2 hp_10 => ?_)
  · obtain ⟨hE9, rfl, hx9⟩ := hx9
    exact z_out hne K (Nat.le_of_ble_eq_true rfl) (Nat.le_of_ble_eq_true rfl) ⟨hI0, zSame_rf _, Or.inl ⟨hE9, (by unfold kCit; repeat (first | omega | split))⟩⟩
  obtain ⟨hC_10, hc_10⟩ := hp_10
  refine z_C hC_10 ?_
  refine z_aload_n 14 K dX8_cite_13 rfl rfl 1 rfl ?_
  refine z_iload_n 15 K dX8_cite_14 rfl rfl 3 rfl ?_
  refine z_xVv (As := [.int (iZ p0)]) (rest := []) 18 K 0 (by decide) hMa rfl rfl (m_X8_checkPlace l g _ p0 (f 1) (f 2) (f 0) hMa hSt hEx (by omega) (by omega) hlt) (cwV 1 K.1.2.2.2.2 gX8_cite_X8_checkPlace rfl rfl rfl (by decide +kernel) ⟨Nat.le_of_ble_eq_true rfl, Nat.le_of_ble_eq_true rfl⟩) rfl (Nat.le_of_ble_eq_true rfl) dX8_cite_15 rfl ⟨by simp only []; omega, by simp only []; omega⟩ rfl (fun E9 C9 hx9 => ?_) (fun C_4 hp_15 => ?_)
  · obtain ⟨hE9, rfl, hx9⟩ := hx9
    exact z_out hne K (Nat.le_of_ble_eq_true rfl) (Nat.le_of_ble_eq_true rfl) ⟨hI0, zSame_rf _, Or.inl ⟨hE9, (by unfold kCit; repeat (first | omega | split))⟩⟩
  obtain ⟨hC_15, hc_15⟩ := hp_15
  refine z_C hC_15 ?_
  refine z_iload_n 19 K dX8_cite_18 rfl rfl 4 rfl ?_
  refine z_xSv (As := [.int (iZ y)]) (rest := []) 22 K (m_X8_checkPages l g _ y (by omega) hlt) (va_cwS 1 K.1.2.2.2.2 gX8_cite_X8_checkPages rfl rfl rfl (by decide +kernel) ⟨Nat.le_of_ble_eq_true rfl, Nat.le_of_ble_eq_true rfl⟩) rfl (Nat.le_of_ble_eq_true rfl) dX8_cite_19 rfl ⟨by simp only []; omega, by simp only []; omega⟩ rfl (fun E9 C9 hx9 => ?_) (fun C_6 hp_19 => ?_)
  · obtain ⟨hE9, rfl, hx9⟩ := hx9
    exact z_out hne K (Nat.le_of_ble_eq_true rfl) (Nat.le_of_ble_eq_true rfl) ⟨hI0, zSame_rf _, Or.inr (Or.inl ⟨hE9, (by unfold kCit; repeat (first | omega | split))⟩)⟩
  obtain ⟨hC_19, hc_19⟩ := hp_19
  refine z_C hC_19 ?_
  have hpa := hw.pa a (by omega) (by omega)
  have hca := hR.pa a (by omega) (by omega)
  refine z_aload 24 K dX8_cite_22 rfl 0 rfl ?_
  refine z_get 27 K hin_X8_cite_X0 5 (by decide) hCi rfl 0 (by decide) (by decide +kernel : Cond.fieldLink RX8 131 "BriefBuilder$Citations" "counts" "[I" ∈ wsX8_cite) (fun _ h9 => h9) rfl dX8_cite_24 rfl ?_
  refine z_iload_n 28 K dX8_cite_27 rfl rfl 2 rfl ?_
  refine z_iald (f := cc) 29 K 6 (by decide) hCc (by omega) (by omega) (by decide) dX8_cite_28 rfl ?_
  refine z_top (f (32 * a + 65)) hca.1 ?_
  refine z_bipush 31 K dX8_cite_29 rfl rfl ?_
  refine z_icmp_lt (tgt := 44) 34 K dX8_cite_31 rfl (by decide) (by omega) (by decide) (fun c_31 => ?_) (fun c_31 => ?_)
  · skip
    exact absurd (by unfold kCit; repeat (first | omega | split)) hk9
  · skip
    exact z_throw hne K hlt (cls := "java/lang/IllegalStateException") (text := "the paragraph has all citations that it may have") (names := ["java/lang/RuntimeException", "java/lang/Exception"]) (by decide +kernel) (by decide +kernel) (by decide +kernel) (by decide +kernel) (by decide +kernel) hat1_X8_cite_34 at_IS_2 at_IS_g dX8_cite_34 dX8_cite_37 dX8_cite_38 dX8_cite_40 dX8_cite_43 (Nat.le_of_ble_eq_true rfl) (Nat.le_of_ble_eq_true rfl) (Nat.le_of_ble_eq_true rfl) (Nat.le_of_ble_eq_true rfl) (Nat.le_of_ble_eq_true rfl) (Nat.le_of_ble_eq_true rfl) ⟨hI0, zSame_rf _, Or.inr (Or.inr (⟨rfl, (by unfold kCit; repeat (first | omega | split))⟩))⟩
set_option maxRecDepth 20000 in
theorem hin_X8_cite_X1 : ∀ w ∈ wsX10, w ∈ wsX8_cite := by decide +kernel
set_option maxHeartbeats 4000000 in
set_option maxRecDepth 100000 in
theorem a_X8_cite (l : Launch) (g : zG) (C : Nat → va_E) (a : Int) (p0 : Int) (y : Int) (f : Int → Int) (past : Int → Int) (tx : Int → Int) (k : Int) (ty : Int) (cap : Int) (hI : IW g C f k past ty tx) (hP : PW cap f k past ty tx) (h_a : -2147483648 ≤ a ∧ a < 2147483648) (h_p0 : -2147483648 ≤ p0 ∧ p0 < 2147483648) (h_y : -2147483648 ≤ y ∧ y < 2147483648) (hk9 : kCit f a p0 y = 0) : Met l yX8_cite wsX8_cite ({ frames := 4, cells := 0, slots := 0, locals := 103 } : Room) (zPre g C [.ref (aD g 0), .int (iZ a), .int (iZ p0), .int (iZ y)]) (zQi g (fun z C' => IW g C' (mName f a p0 y) (mKp k + 1) (mSav f past k) ty tx ∧ zSame C C' ∧ z = f (32 * a + 65) + 1)) 0 0 (zA g) := by
  refine z_enter RX8 rfl (by decide) rfl (Nat.le_of_ble_eq_true rfl) ?_
  intro p e s m args below meth c K harg
  refine z_sub (lv' := [(0, .ref (aD g 0)), (1, .int (iZ a)), (2, .int (iZ p0)), (3, .int (iZ y))]) [0, 1, 2, 3] rfl ?_
  have hI0 := hI
  obtain ⟨hB, hL, hV, hT, hH, hX⟩ := hI
  obtain ⟨hMa, hSp⟩ := id hB
  obtain ⟨num, pgs, cc, cn, cp, pn, pm, ⟨hSt, hEx, hNum, hPgs, hCi, hCc, hCn, hCp, hPr, hPc, hPm⟩, hR⟩ := id hL
  obtain ⟨vb, vt, vf, lt, lo, ⟨hVw, hVb, hVt, hVf, hLe, hLo⟩, hVR⟩ := id hV
  obtain ⟨tc, np, tp, hTr, hTn, hTp, hnp⟩ := id hT
  obtain ⟨cur, stp, pl, px, hTx, hXc, hXl, hXp, hpx⟩ := id hX
  obtain ⟨old, hHi, hHs, hho, -, -⟩ := id hH
  obtain ⟨hw, hk, hpst, hty, htxr, hrtx, hrp, hcap⟩ := id hP
  have hn := hw.n
  have hnx := hw.nx
  have hbp := hw.bp
  have hq : (0 ≤ a ∧ a < 12) ∧ (0 ≤ p0 ∧ p0 < f 1) ∧ (1 ≤ y ∧ y ≤ 60) ∧ f (32 * a + 65) ≠ 6 := by
    unfold kCit at hk9
    repeat (first | omega | split at hk9)
  have hpa := hw.pa a (by omega) (by omega)
  have hca := hR.pa a (by omega) (by omega)
  refine z_aload_n 1 K dX8_cite_0 rfl rfl 0 rfl ?_
  refine z_get 4 K hin_X8_cite_X8 0 (by decide) hMa rfl 0 (by decide) (by decide +kernel : Cond.fieldLink RX8 12 "BriefBuilder" "state" "LBriefBuilder$State;" ∈ wsX8_cite) (fun _ h9 => h9) rfl dX8_cite_1 rfl ?_
  refine z_get 7 K hin_X8_cite_X4 1 (by decide) hSt rfl 1 (by decide) (by decide +kernel : Cond.fieldLink RX8 111 "BriefBuilder$State" "citations" "LBriefBuilder$Citations;" ∈ wsX8_cite) (fun _ h9 => h9) rfl dX8_cite_4 rfl ?_
  refine z_astore (lv' := [(4, .ref (aD g 5)), (0, .ref (aD g 0)), (1, .int (iZ a)), (2, .int (iZ p0)), (3, .int (iZ y))]) 9 K dX8_cite_7 rfl (by decide) rfl ?_
  refine z_iload_n 10 K dX8_cite_9 rfl rfl 2 rfl ?_
  refine z_vSv (As := [.int (iZ a)]) (rest := []) 13 K (n_X8_checkParagraph l g _ a (by omega) (by omega)) (va_cwS 1 K.1.2.2.2.2 gX8_cite_X8_checkParagraph rfl rfl rfl (by decide +kernel) ⟨Nat.le_of_ble_eq_true rfl, Nat.le_of_ble_eq_true rfl⟩) rfl (Nat.le_of_ble_eq_true rfl) dX8_cite_10 rfl ⟨Nat.le_of_ble_eq_true rfl, Nat.le_of_ble_eq_true rfl⟩ rfl (fun C_2 hp_10 => ?_)
  refine z_C hp_10 ?_
  refine z_aload_n 14 K dX8_cite_13 rfl rfl 1 rfl ?_
  refine z_iload_n 15 K dX8_cite_14 rfl rfl 3 rfl ?_
  refine z_vVv (As := [.int (iZ p0)]) (rest := []) 18 K 0 (by decide) hMa rfl rfl (n_X8_checkPlace l g _ p0 (f 1) (f 2) (f 0) hMa hSt hEx (by omega) (by omega) (by omega)) (cwV 1 K.1.2.2.2.2 gX8_cite_X8_checkPlace rfl rfl rfl (by decide +kernel) ⟨Nat.le_of_ble_eq_true rfl, Nat.le_of_ble_eq_true rfl⟩) rfl (Nat.le_of_ble_eq_true rfl) dX8_cite_15 rfl ⟨Nat.le_of_ble_eq_true rfl, Nat.le_of_ble_eq_true rfl⟩ rfl (fun C_4 hp_15 => ?_)
  refine z_C hp_15 ?_
  refine z_iload_n 19 K dX8_cite_18 rfl rfl 4 rfl ?_
  refine z_vSv (As := [.int (iZ y)]) (rest := []) 22 K (n_X8_checkPages l g _ y (by omega) (by omega)) (va_cwS 1 K.1.2.2.2.2 gX8_cite_X8_checkPages rfl rfl rfl (by decide +kernel) ⟨Nat.le_of_ble_eq_true rfl, Nat.le_of_ble_eq_true rfl⟩) rfl (Nat.le_of_ble_eq_true rfl) dX8_cite_19 rfl ⟨Nat.le_of_ble_eq_true rfl, Nat.le_of_ble_eq_true rfl⟩ rfl (fun C_6 hp_19 => ?_)
  refine z_C hp_19 ?_
  refine z_aload 24 K dX8_cite_22 rfl 0 rfl ?_
  refine z_get 27 K hin_X8_cite_X0 5 (by decide) hCi rfl 0 (by decide) (by decide +kernel : Cond.fieldLink RX8 131 "BriefBuilder$Citations" "counts" "[I" ∈ wsX8_cite) (fun _ h9 => h9) rfl dX8_cite_24 rfl ?_
  refine z_iload_n 28 K dX8_cite_27 rfl rfl 2 rfl ?_
  refine z_iald (f := cc) 29 K 6 (by decide) hCc (by omega) (by omega) (by decide) dX8_cite_28 rfl ?_
  refine z_top (f (32 * a + 65)) hca.1 ?_
  refine z_bipush 31 K dX8_cite_29 rfl rfl ?_
  refine z_icmp_lt (tgt := 44) 34 K dX8_cite_31 rfl (by decide) (by omega) (by decide) (fun c_31 => ?_) (fun c_31 => ?_)
  · skip
    refine z_aload_n 45 K dX8_cite_44 rfl rfl 1 rfl ?_
    refine z_get 48 K hin_X8_cite_X8 0 (by decide) hMa rfl 3 (by decide) (by decide +kernel : Cond.fieldLink RX8 33 "BriefBuilder" "history" "LBriefBuilder$History;" ∈ wsX8_cite) (fun _ h9 => h9) rfl dX8_cite_45 rfl ?_
    refine z_aload_n 49 K dX8_cite_48 rfl rfl 1 rfl ?_
    refine z_get 52 K hin_X8_cite_X8 0 (by decide) hMa rfl 0 (by decide) (by decide +kernel : Cond.fieldLink RX8 12 "BriefBuilder" "state" "LBriefBuilder$State;" ∈ wsX8_cite) (fun _ h9 => h9) rfl dX8_cite_49 rfl ?_
    refine z_vVv (As := [.ref (aD g 1)]) (rest := []) 55 K 21 (by decide) hHi rfl rfl (s_X2_save l g _ f past k cap hH hL hk hw hpst) (cwV 1 K.1.2.2.2.2 gX8_cite_X2_save rfl rfl rfl (by decide +kernel) ⟨Nat.le_of_ble_eq_true rfl, Nat.le_of_ble_eq_true rfl⟩) rfl (Nat.le_of_ble_eq_true rfl) dX8_cite_52 rfl ⟨Nat.le_of_ble_eq_true rfl, Nat.le_of_ble_eq_true rfl⟩ rfl (fun C_8 hp_52 => ?_)
    obtain ⟨hHn_52, hsm_52⟩ := hp_52
    have hf_52_0 : C_8 0 = .inr (8, [.ref (aD g 1), .ref (aD g 12), .ref (aD g 18), .ref (aD g 21), .ref (aD g 23), .ref (aD g 27)]) := (hsm_52 0 (by omega)).trans hMa
    have hf_52_27 : C_8 27 = eI g 30 (fun k => k) := (hsm_52 27 (by omega)).trans hSp
    have hf_52_1 : C_8 1 = .inr (4, [.ref (aD g 2), .ref (aD g 5), .ref (aD g 9)]) := (hsm_52 1 (by omega)).trans hSt
    have hf_52_2 : C_8 2 = .inr (1, [.ref (aD g 3), .ref (aD g 4), .int (iZ (f 1)), .int (iZ (f 2)), .int (iZ (f 0))]) := (hsm_52 2 (by omega)).trans hEx
    have hf_52_3 : C_8 3 = eI g 30 num := (hsm_52 3 (by omega)).trans hNum
    have hf_52_4 : C_8 4 = eI g 30 pgs := (hsm_52 4 (by omega)).trans hPgs
    have hf_52_5 : C_8 5 = .inr (0, [.ref (aD g 6), .ref (aD g 7), .ref (aD g 8)]) := (hsm_52 5 (by omega)).trans hCi
    have hf_52_6 : C_8 6 = eI g 12 cc := (hsm_52 6 (by omega)).trans hCc
    have hf_52_7 : C_8 7 = eI g 72 cn := (hsm_52 7 (by omega)).trans hCn
    have hf_52_8 : C_8 8 = eI g 72 cp := (hsm_52 8 (by omega)).trans hCp
    have hf_52_9 : C_8 9 = .inr (3, [.ref (aD g 10), .ref (aD g 11)]) := (hsm_52 9 (by omega)).trans hPr
    have hf_52_10 : C_8 10 = eI g 12 pn := (hsm_52 10 (by omega)).trans hPc
    have hf_52_11 : C_8 11 = eI g 72 pm := (hsm_52 11 (by omega)).trans hPm
    have hf_52_12 : C_8 12 = .inr (7, [.ref (aD g 13), .ref (aD g 14), .ref (aD g 15), .ref (aD g 16), .ref (aD g 17), .int (iZ (sBds f))]) := (hsm_52 12 (by omega)).trans hVw
    have hf_52_13 : C_8 13 = eI g 30 vb := (hsm_52 13 (by omega)).trans hVb
    have hf_52_14 : C_8 14 = eI g 30 vt := (hsm_52 14 (by omega)).trans hVt
    have hf_52_15 : C_8 15 = eI g 30 vf := (hsm_52 15 (by omega)).trans hVf
    have hf_52_16 : C_8 16 = eI g 72 lt := (hsm_52 16 (by omega)).trans hLe
    have hf_52_17 : C_8 17 = eZ g 72 lo := (hsm_52 17 (by omega)).trans hLo
    have hf_52_18 : C_8 18 = .inr (6, [.ref (aD g 19), .ref (aD g 20), .int (iZ tc)]) := (hsm_52 18 (by omega)).trans hTr
    have hf_52_19 : C_8 19 = eI g 30 np := (hsm_52 19 (by omega)).trans hTn
    have hf_52_20 : C_8 20 = eI g 31 tp := (hsm_52 20 (by omega)).trans hTp
    have hf_52_22 : C_8 22 = eS g 6 (fun k => some (aD g (28 + 11 * k))) := (hsm_52 22 (by omega)).trans hHs
    have hf_52_23 : C_8 23 = .inr (5, [.ref (aD g 24), .int (iZ ty), .ref (aD g 25), .ref (aD g 26), .int (iZ cur), .int (iZ stp)]) := (hsm_52 23 (by omega)).trans hTx
    have hf_52_24 : C_8 24 = eI g 60 tx := (hsm_52 24 (by omega)).trans hXc
    have hf_52_25 : C_8 25 = eI g 6 pl := (hsm_52 25 (by omega)).trans hXl
    have hf_52_26 : C_8 26 = eI g 6 px := (hsm_52 26 (by omega)).trans hXp
    have hB2 := wB_cong hB (fun q hq => hsm_52 q (by omega))
    have hT2 := wT_cong hT (fun q hq => hsm_52 q (by omega))
    have hX2 := wX_cong hX (fun q hq => hsm_52 q (by omega))
    refine z_aload 57 K dX8_cite_55 rfl 0 rfl ?_
    refine z_iload_n 58 K dX8_cite_57 rfl rfl 2 rfl ?_
    refine z_aload_n 59 K dX8_cite_58 rfl rfl 1 rfl ?_
    refine z_get 62 K hin_X8_cite_X8 0 (by decide) hf_52_0 rfl 0 (by decide) (by decide +kernel : Cond.fieldLink RX8 12 "BriefBuilder" "state" "LBriefBuilder$State;" ∈ wsX8_cite) (fun _ h9 => h9) rfl dX8_cite_59 rfl ?_
    refine z_get 65 K hin_X8_cite_X4 1 (by decide) hf_52_1 rfl 0 (by decide) (by decide +kernel : Cond.fieldLink RX8 48 "BriefBuilder$State" "exhibits" "LBriefBuilder$Exhibits;" ∈ wsX8_cite) (fun _ h9 => h9) rfl dX8_cite_62 rfl ?_
    refine z_get 68 K hin_X8_cite_X1 2 (by decide) hf_52_2 rfl 0 (by decide) (by decide +kernel : Cond.fieldLink RX8 78 "BriefBuilder$Exhibits" "numbers" "[I" ∈ wsX8_cite) (fun _ h9 => h9) rfl dX8_cite_65 rfl ?_
    refine z_iload_n 69 K dX8_cite_68 rfl rfl 3 rfl ?_
    refine z_iald (f := num) 70 K 3 (by decide) hf_52_3 (by omega) (by omega) (by decide) dX8_cite_69 rfl ?_
    refine z_iload_n 71 K dX8_cite_70 rfl rfl 4 rfl ?_
    refine z_vVv (As := [.int (iZ a), .int (iZ (num p0)), .int (iZ y)]) (rest := []) 74 K 5 (by decide) hf_52_5 rfl rfl (m_X0_add l g _ a (num p0) y cc cn cp hf_52_5 hf_52_6 hf_52_7 hf_52_8 (by omega) (by omega)) (cwV 3 K.1.2.2.2.2 gX8_cite_X0_add rfl rfl rfl (by decide +kernel) ⟨Nat.le_of_ble_eq_true rfl, Nat.le_of_ble_eq_true rfl⟩) rfl (Nat.le_of_ble_eq_true rfl) dX8_cite_71 rfl ⟨Nat.le_of_ble_eq_true rfl, Nat.le_of_ble_eq_true rfl⟩ rfl (fun C_10 hp_71 => ?_)
    refine z_C hp_71 ?_
    refine z_aload_n 75 K dX8_cite_74 rfl rfl 1 rfl ?_
    refine z_get 78 K hin_X8_cite_X8 0 (by decide) ((va_up_ne _ _ (by decide)).trans ((va_up_ne _ _ (by decide)).trans ((va_up_ne _ _ (by decide)).trans hf_52_0))) rfl 1 (by decide) (by decide +kernel : Cond.fieldLink RX8 19 "BriefBuilder" "view" "LBriefBuilder$View;" ∈ wsX8_cite) (fun _ h9 => h9) rfl dX8_cite_75 rfl ?_
    refine z_aload_n 79 K dX8_cite_78 rfl rfl 1 rfl ?_
    refine z_get 82 K hin_X8_cite_X8 0 (by decide) ((va_up_ne _ _ (by decide)).trans ((va_up_ne _ _ (by decide)).trans ((va_up_ne _ _ (by decide)).trans hf_52_0))) rfl 0 (by decide) (by decide +kernel : Cond.fieldLink RX8 12 "BriefBuilder" "state" "LBriefBuilder$State;" ∈ wsX8_cite) (fun _ h9 => h9) rfl dX8_cite_79 rfl ?_
    have hw2 : WF (mName f a p0 y) (cap) := WF_name hw (by omega) (by omega) (by omega) (by omega) (by omega)
    have hR2 : RS (mName f a p0 y) num pgs (zu cc a (cc a + 1)) (zu cn (6 * a + cc a) (num p0)) (zu cp (6 * a + cc a) y) pn pm := RS_name hR hw (by omega) (by omega) (by omega)
    have e1 : f 1 = (mName f a p0 y) 1 := (mName_012 f (by omega) hpa.1).1.symm
    have e2 : f 2 = (mName f a p0 y) 2 := (mName_012 f (by omega) hpa.1).2.1.symm
    have e3 : f 0 = (mName f a p0 y) 0 := (mName_012 f (by omega) hpa.1).2.2.symm
    have hpg2 : ∀ j, 0 ≤ j → j < f 1 → 0 ≤ pgs j ∧ pgs j ≤ 60 := by
      intro j j0 j1
      rw [e1] at j1
      exact hR2.hpg hw2 j j0 j1
    have hbp2 := hw2.bp
    have hn2 := hw2.n
    refine z_vVv (As := [.ref (aD g 1)]) (rest := []) 85 K 12 (by decide) ((va_up_ne _ _ (by decide)).trans ((va_up_ne _ _ (by decide)).trans ((va_up_ne _ _ (by decide)).trans hf_52_12))) rfl rfl (m_X7_follow l g _ (sBds f) vb vt vf lt lo (f 1) (f 2) (f 0) num pgs (zu cc a (cc a + 1)) (zu cn (6 * a + cc a) (num p0)) (zu cp (6 * a + cc a) y) ((va_up_ne _ _ (by decide)).trans ((va_up_ne _ _ (by decide)).trans ((va_up_ne _ _ (by decide)).trans hf_52_12))) ((va_up_ne _ _ (by decide)).trans ((va_up_ne _ _ (by decide)).trans ((va_up_ne _ _ (by decide)).trans hf_52_13))) ((va_up_ne _ _ (by decide)).trans ((va_up_ne _ _ (by decide)).trans ((va_up_ne _ _ (by decide)).trans hf_52_14))) ((va_up_ne _ _ (by decide)).trans ((va_up_ne _ _ (by decide)).trans ((va_up_ne _ _ (by decide)).trans hf_52_15))) ((va_up_ne _ _ (by decide)).trans ((va_up_ne _ _ (by decide)).trans ((va_up_ne _ _ (by decide)).trans hf_52_16))) ((va_up_ne _ _ (by decide)).trans ((va_up_ne _ _ (by decide)).trans ((va_up_ne _ _ (by decide)).trans hf_52_17))) ((va_up_ne _ _ (by decide)).trans ((va_up_ne _ _ (by decide)).trans ((va_up_ne _ _ (by decide)).trans hf_52_1))) ((va_up_ne _ _ (by decide)).trans ((va_up_ne _ _ (by decide)).trans ((va_up_ne _ _ (by decide)).trans hf_52_2))) ((va_up_ne _ _ (by decide)).trans ((va_up_ne _ _ (by decide)).trans ((va_up_ne _ _ (by decide)).trans hf_52_3))) ((va_up_ne _ _ (by decide)).trans ((va_up_ne _ _ (by decide)).trans ((va_up_ne _ _ (by decide)).trans hf_52_4))) ((va_up_ne _ _ (by decide)).trans ((va_up_ne _ _ (by decide)).trans ((va_up_ne _ _ (by decide)).trans hf_52_5))) (va_up_eq _ 6 _) ((va_up_ne _ _ (by decide)).trans ((va_up_ne _ _ (by decide)).trans (va_up_eq _ 7 _))) ((va_up_ne _ _ (by decide)).trans (va_up_eq _ 8 _)) (by omega) (by omega) hpg2 (hR2.hcc hw2) hVR.2.2.1 hVR.2.2.2 hR2.r1 hR2.r2 (hR2.hcp hw2)) (cwV 1 K.1.2.2.2.2 gX8_cite_X7_follow rfl rfl rfl (by decide +kernel) ⟨Nat.le_of_ble_eq_true rfl, Nat.le_of_ble_eq_true rfl⟩) rfl (Nat.le_of_ble_eq_true rfl) dX8_cite_82 rfl ⟨Nat.le_of_ble_eq_true rfl, Nat.le_of_ble_eq_true rfl⟩ rfl (fun C_12 hp_82 => ?_)
    obtain ⟨w13_13, w14_14, w15_15, w16_16, w17_17, hC_82, hvf_82, hcf_82, hl16_82, hl17_82⟩ := hp_82
    refine z_C hC_82 ?_
    refine z_aload 87 K dX8_cite_85 rfl 0 rfl ?_
    refine z_get 90 K hin_X8_cite_X0 5 (by decide) ((va_up_ne _ _ (by decide)).trans ((va_up_ne _ _ (by decide)).trans ((va_up_ne _ _ (by decide)).trans ((va_up_ne _ _ (by decide)).trans ((va_up_ne _ _ (by decide)).trans ((va_up_ne _ _ (by decide)).trans ((va_up_ne _ _ (by decide)).trans ((va_up_ne _ _ (by decide)).trans ((va_up_ne _ _ (by decide)).trans hf_52_5))))))))) rfl 0 (by decide) (by decide +kernel : Cond.fieldLink RX8 131 "BriefBuilder$Citations" "counts" "[I" ∈ wsX8_cite) (fun _ h9 => h9) rfl dX8_cite_87 rfl ?_
    refine z_iload_n 91 K dX8_cite_90 rfl rfl 2 rfl ?_
    refine z_iald (f := (zu cc a (cc a + 1))) 92 K 6 (by decide) ((va_up_ne _ _ (by decide)).trans ((va_up_ne _ _ (by decide)).trans ((va_up_ne _ _ (by decide)).trans ((va_up_ne _ _ (by decide)).trans ((va_up_ne _ _ (by decide)).trans ((va_up_ne _ _ (by decide)).trans (va_up_eq _ 6 _))))))) (by omega) (by omega) (by decide) dX8_cite_91 rfl ?_
    refine z_top (f (32 * a + 65) + 1) (by rw [zu_eq, hca.1]) ?_
    exact z_iret K rfl dX8_cite_92 ⟨IW_mk hB2 hT2 hX2 hHn_52 (fun q hq => ((va_up_ne _ _ (by omega)).trans ((va_up_ne _ _ (by omega)).trans ((va_up_ne _ _ (by omega)).trans ((va_up_ne _ _ (by omega)).trans ((va_up_ne _ _ (by omega)).trans ((va_up_ne _ _ (by omega)).trans ((va_up_ne _ _ (by omega)).trans ((va_up_ne _ _ (by omega)).trans ((va_up_ne _ _ (by omega)).trans rfl)))))))))) ⟨((va_up_ne _ _ (by decide)).trans ((va_up_ne _ _ (by decide)).trans ((va_up_ne _ _ (by decide)).trans ((va_up_ne _ _ (by decide)).trans ((va_up_ne _ _ (by decide)).trans ((va_up_ne _ _ (by decide)).trans ((va_up_ne _ _ (by decide)).trans ((va_up_ne _ _ (by decide)).trans ((va_up_ne _ _ (by decide)).trans hf_52_1))))))))), ((va_up_ne _ _ (by decide)).trans ((va_up_ne _ _ (by decide)).trans ((va_up_ne _ _ (by decide)).trans ((va_up_ne _ _ (by decide)).trans ((va_up_ne _ _ (by decide)).trans ((va_up_ne _ _ (by decide)).trans ((va_up_ne _ _ (by decide)).trans ((va_up_ne _ _ (by decide)).trans ((va_up_ne _ _ (by decide)).trans hf_52_2))))))))), ((va_up_ne _ _ (by decide)).trans ((va_up_ne _ _ (by decide)).trans ((va_up_ne _ _ (by decide)).trans ((va_up_ne _ _ (by decide)).trans ((va_up_ne _ _ (by decide)).trans ((va_up_ne _ _ (by decide)).trans ((va_up_ne _ _ (by decide)).trans ((va_up_ne _ _ (by decide)).trans ((va_up_ne _ _ (by decide)).trans hf_52_3))))))))), ((va_up_ne _ _ (by decide)).trans ((va_up_ne _ _ (by decide)).trans ((va_up_ne _ _ (by decide)).trans ((va_up_ne _ _ (by decide)).trans ((va_up_ne _ _ (by decide)).trans ((va_up_ne _ _ (by decide)).trans ((va_up_ne _ _ (by decide)).trans ((va_up_ne _ _ (by decide)).trans ((va_up_ne _ _ (by decide)).trans hf_52_4))))))))), ((va_up_ne _ _ (by decide)).trans ((va_up_ne _ _ (by decide)).trans ((va_up_ne _ _ (by decide)).trans ((va_up_ne _ _ (by decide)).trans ((va_up_ne _ _ (by decide)).trans ((va_up_ne _ _ (by decide)).trans ((va_up_ne _ _ (by decide)).trans ((va_up_ne _ _ (by decide)).trans ((va_up_ne _ _ (by decide)).trans hf_52_5))))))))), ((va_up_ne _ _ (by decide)).trans ((va_up_ne _ _ (by decide)).trans ((va_up_ne _ _ (by decide)).trans ((va_up_ne _ _ (by decide)).trans ((va_up_ne _ _ (by decide)).trans ((va_up_ne _ _ (by decide)).trans (va_up_eq _ 6 _))))))), ((va_up_ne _ _ (by decide)).trans ((va_up_ne _ _ (by decide)).trans ((va_up_ne _ _ (by decide)).trans ((va_up_ne _ _ (by decide)).trans ((va_up_ne _ _ (by decide)).trans ((va_up_ne _ _ (by decide)).trans ((va_up_ne _ _ (by decide)).trans ((va_up_ne _ _ (by decide)).trans (va_up_eq _ 7 _))))))))), ((va_up_ne _ _ (by decide)).trans ((va_up_ne _ _ (by decide)).trans ((va_up_ne _ _ (by decide)).trans ((va_up_ne _ _ (by decide)).trans ((va_up_ne _ _ (by decide)).trans ((va_up_ne _ _ (by decide)).trans ((va_up_ne _ _ (by decide)).trans (va_up_eq _ 8 _)))))))), ((va_up_ne _ _ (by decide)).trans ((va_up_ne _ _ (by decide)).trans ((va_up_ne _ _ (by decide)).trans ((va_up_ne _ _ (by decide)).trans ((va_up_ne _ _ (by decide)).trans ((va_up_ne _ _ (by decide)).trans ((va_up_ne _ _ (by decide)).trans ((va_up_ne _ _ (by decide)).trans ((va_up_ne _ _ (by decide)).trans hf_52_9))))))))), ((va_up_ne _ _ (by decide)).trans ((va_up_ne _ _ (by decide)).trans ((va_up_ne _ _ (by decide)).trans ((va_up_ne _ _ (by decide)).trans ((va_up_ne _ _ (by decide)).trans ((va_up_ne _ _ (by decide)).trans ((va_up_ne _ _ (by decide)).trans ((va_up_ne _ _ (by decide)).trans ((va_up_ne _ _ (by decide)).trans hf_52_10))))))))), ((va_up_ne _ _ (by decide)).trans ((va_up_ne _ _ (by decide)).trans ((va_up_ne _ _ (by decide)).trans ((va_up_ne _ _ (by decide)).trans ((va_up_ne _ _ (by decide)).trans ((va_up_ne _ _ (by decide)).trans ((va_up_ne _ _ (by decide)).trans ((va_up_ne _ _ (by decide)).trans ((va_up_ne _ _ (by decide)).trans hf_52_11)))))))))⟩ e1 e2 e3 hR2 hw2 ⟨((va_up_ne _ _ (by decide)).trans ((va_up_ne _ _ (by decide)).trans (va_up_eq _ 12 _))), ((va_up_ne _ _ (by decide)).trans ((va_up_ne _ _ (by decide)).trans ((va_up_ne _ _ (by decide)).trans ((va_up_ne _ _ (by decide)).trans ((va_up_ne _ _ (by decide)).trans (va_up_eq _ 13 _)))))), ((va_up_ne _ _ (by decide)).trans ((va_up_ne _ _ (by decide)).trans ((va_up_ne _ _ (by decide)).trans ((va_up_ne _ _ (by decide)).trans (va_up_eq _ 14 _))))), ((va_up_ne _ _ (by decide)).trans ((va_up_ne _ _ (by decide)).trans ((va_up_ne _ _ (by decide)).trans (va_up_eq _ 15 _)))), ((va_up_ne _ _ (by decide)).trans (va_up_eq _ 16 _)), (va_up_eq _ 17 _)⟩ rfl hvf_82 hcf_82 hl16_82 hl17_82, fun q hq => (((va_up_ne _ _ (by omega)).trans ((va_up_ne _ _ (by omega)).trans ((va_up_ne _ _ (by omega)).trans ((va_up_ne _ _ (by omega)).trans ((va_up_ne _ _ (by omega)).trans ((va_up_ne _ _ (by omega)).trans ((va_up_ne _ _ (by omega)).trans ((va_up_ne _ _ (by omega)).trans ((va_up_ne _ _ (by omega)).trans rfl)))))))))).trans (hsm_52 q (by omega)), rfl⟩
  · skip
    exact absurd hq (by omega)
set_option maxHeartbeats 4000000 in
set_option maxRecDepth 100000 in
theorem x_X8_clean (l : Launch) (g : zG) (C : Nat → va_E) (a : Int) (f : Int → Int) (past : Int → Int) (tx : Int → Int) (k : Int) (ty : Int) (cap : Int) (hI : IW g C f k past ty tx) (hP : PW cap f k past ty tx) (h_a : -2147483648 ≤ a ∧ a < 2147483648) (hk9 : kPar a ≠ 0) (hlt : l.stackTraces = false) : vx_Met l yX8_clean wsX8_clean ({ frames := 7, cells := 1, slots := 6, locals := 102 } : Room) (zPre g C [.ref (aD g 0), .int (iZ a)]) (zQi g (fun z C' => False)) (zX g (fun E C' => IW g C' f k past ty tx ∧ zSame C C' ∧ ((E = "java/lang/IndexOutOfBoundsException" ∧ kPar a = 1)))) 1 6 (zA g) := by
  refine z_enterX RX8 rfl (by decide) rfl (Nat.le_of_ble_eq_true rfl) ?_
  intro p e s m args below meth c K harg hne
  refine z_sub (lv' := [(0, .ref (aD g 0)), (1, .int (iZ a))]) [0, 1] rfl ?_
  have hI0 := hI
  obtain ⟨hB, hL, hV, hT, hH, hX⟩ := hI
  obtain ⟨hMa, hSp⟩ := id hB
  obtain ⟨num, pgs, cc, cn, cp, pn, pm, ⟨hSt, hEx, hNum, hPgs, hCi, hCc, hCn, hCp, hPr, hPc, hPm⟩, hR⟩ := id hL
  obtain ⟨vb, vt, vf, lt, lo, ⟨hVw, hVb, hVt, hVf, hLe, hLo⟩, hVR⟩ := id hV
  obtain ⟨tc, np, tp, hTr, hTn, hTp, hnp⟩ := id hT
  obtain ⟨cur, stp, pl, px, hTx, hXc, hXl, hXp, hpx⟩ := id hX
  obtain ⟨old, hHi, hHs, hho, -, -⟩ := id hH
  obtain ⟨hw, hk, hpst, hty, htxr, hrtx, hrp, hcap⟩ := id hP
  have hn := hw.n
  have hnx := hw.nx
  have hbp := hw.bp
  refine z_iload_n 1 K dX8_clean_0 rfl rfl 1 rfl ?_
  refine z_xSv (As := [.int (iZ a)]) (rest := []) 4 K (m_X8_checkParagraph l g _ a (by omega) hlt) (va_cwS 1 K.1.2.2.2.2 gX8_clean_X8_checkParagraph rfl rfl rfl (by decide +kernel) ⟨Nat.le_of_ble_eq_true rfl, Nat.le_of_ble_eq_true rfl⟩) rfl (Nat.le_of_ble_eq_true rfl) dX8_clean_1 rfl ⟨Nat.le_of_ble_eq_true rfl, Nat.le_of_ble_eq_true rfl⟩ rfl (fun E9 C9 hx9 => ?_) (fun C_2 hp_1 => ?_)
  · obtain ⟨hE9, rfl, hx9⟩ := hx9
    exact z_out hne K (Nat.le_of_ble_eq_true rfl) (Nat.le_of_ble_eq_true rfl) ⟨hI0, zSame_rf _, ⟨hE9, (by unfold kPar; repeat (first | omega | split))⟩⟩
  obtain ⟨hC_1, hc_1⟩ := hp_1
  refine z_C hC_1 ?_
  exact absurd (by unfold kPar; repeat (first | omega | split)) hk9
set_option maxRecDepth 20000 in
theorem hin_X8_clean_X4 : ∀ w ∈ wsX40, w ∈ wsX8_clean := by decide +kernel
set_option maxRecDepth 20000 in
theorem hin_X8_clean_X7 : ∀ w ∈ wsX70, w ∈ wsX8_clean := by decide +kernel
set_option maxRecDepth 20000 in
theorem hin_X8_clean_X8 : ∀ w ∈ wsX80, w ∈ wsX8_clean := by decide +kernel
set_option maxHeartbeats 4000000 in
set_option maxRecDepth 100000 in
theorem a_X8_clean (l : Launch) (g : zG) (C : Nat → va_E) (a : Int) (f : Int → Int) (past : Int → Int) (tx : Int → Int) (k : Int) (ty : Int) (cap : Int) (hI : IW g C f k past ty tx) (hP : PW cap f k past ty tx) (h_a : -2147483648 ≤ a ∧ a < 2147483648) (hk9 : kPar a = 0) : Met l yX8_clean wsX8_clean ({ frames := 4, cells := 0, slots := 0, locals := 103 } : Room) (zPre g C [.ref (aD g 0), .int (iZ a)]) (zQi g (fun z C' => IW g C' (mClean f a) (mKp k + 1) (mSav f past k) ty tx ∧ zSame C C' ∧ z = f (32 * a + 65) - mLeft f a (f (32 * a + 65)))) 0 0 (zA g) := by
  refine z_enter RX8 rfl (by decide) rfl (Nat.le_of_ble_eq_true rfl) ?_
  intro p e s m args below meth c K harg
  refine z_sub (lv' := [(0, .ref (aD g 0)), (1, .int (iZ a))]) [0, 1] rfl ?_
  have hI0 := hI
  obtain ⟨hB, hL, hV, hT, hH, hX⟩ := hI
  obtain ⟨hMa, hSp⟩ := id hB
  obtain ⟨num, pgs, cc, cn, cp, pn, pm, ⟨hSt, hEx, hNum, hPgs, hCi, hCc, hCn, hCp, hPr, hPc, hPm⟩, hR⟩ := id hL
  obtain ⟨vb, vt, vf, lt, lo, ⟨hVw, hVb, hVt, hVf, hLe, hLo⟩, hVR⟩ := id hV
  obtain ⟨tc, np, tp, hTr, hTn, hTp, hnp⟩ := id hT
  obtain ⟨cur, stp, pl, px, hTx, hXc, hXl, hXp, hpx⟩ := id hX
  obtain ⟨old, hHi, hHs, hho, -, -⟩ := id hH
  obtain ⟨hw, hk, hpst, hty, htxr, hrtx, hrp, hcap⟩ := id hP
  have hn := hw.n
  have hnx := hw.nx
  have hbp := hw.bp
  have hq : 0 ≤ a ∧ a < 12 := by
    unfold kPar at hk9
    repeat (first | omega | split at hk9)
  have hpa := hw.pa a (by omega) (by omega)
  have hca := hR.pa a (by omega) (by omega)
  refine z_iload_n 1 K dX8_clean_0 rfl rfl 1 rfl ?_
  refine z_vSv (As := [.int (iZ a)]) (rest := []) 4 K (n_X8_checkParagraph l g _ a (by omega) (by omega)) (va_cwS 1 K.1.2.2.2.2 gX8_clean_X8_checkParagraph rfl rfl rfl (by decide +kernel) ⟨Nat.le_of_ble_eq_true rfl, Nat.le_of_ble_eq_true rfl⟩) rfl (Nat.le_of_ble_eq_true rfl) dX8_clean_1 rfl ⟨Nat.le_of_ble_eq_true rfl, Nat.le_of_ble_eq_true rfl⟩ rfl (fun C_2 hp_1 => ?_)
  refine z_C hp_1 ?_
  refine z_aload_n 5 K dX8_clean_4 rfl rfl 0 rfl ?_
  refine z_get 8 K hin_X8_clean_X8 0 (by decide) hMa rfl 3 (by decide) (by decide +kernel : Cond.fieldLink RX8 33 "BriefBuilder" "history" "LBriefBuilder$History;" ∈ wsX8_clean) (fun _ h9 => h9) rfl dX8_clean_5 rfl ?_
  refine z_aload_n 9 K dX8_clean_8 rfl rfl 0 rfl ?_
  refine z_get 12 K hin_X8_clean_X8 0 (by decide) hMa rfl 0 (by decide) (by decide +kernel : Cond.fieldLink RX8 12 "BriefBuilder" "state" "LBriefBuilder$State;" ∈ wsX8_clean) (fun _ h9 => h9) rfl dX8_clean_9 rfl ?_
  refine z_vVv (As := [.ref (aD g 1)]) (rest := []) 15 K 21 (by decide) hHi rfl rfl (s_X2_save l g _ f past k cap hH hL hk hw hpst) (cwV 1 K.1.2.2.2.2 gX8_clean_X2_save rfl rfl rfl (by decide +kernel) ⟨Nat.le_of_ble_eq_true rfl, Nat.le_of_ble_eq_true rfl⟩) rfl (Nat.le_of_ble_eq_true rfl) dX8_clean_12 rfl ⟨Nat.le_of_ble_eq_true rfl, Nat.le_of_ble_eq_true rfl⟩ rfl (fun C_4 hp_12 => ?_)
  obtain ⟨hHn_12, hsm_12⟩ := hp_12
  have hf_12_0 : C_4 0 = .inr (8, [.ref (aD g 1), .ref (aD g 12), .ref (aD g 18), .ref (aD g 21), .ref (aD g 23), .ref (aD g 27)]) := (hsm_12 0 (by omega)).trans hMa
  have hf_12_27 : C_4 27 = eI g 30 (fun k => k) := (hsm_12 27 (by omega)).trans hSp
  have hf_12_1 : C_4 1 = .inr (4, [.ref (aD g 2), .ref (aD g 5), .ref (aD g 9)]) := (hsm_12 1 (by omega)).trans hSt
  have hf_12_2 : C_4 2 = .inr (1, [.ref (aD g 3), .ref (aD g 4), .int (iZ (f 1)), .int (iZ (f 2)), .int (iZ (f 0))]) := (hsm_12 2 (by omega)).trans hEx
  have hf_12_3 : C_4 3 = eI g 30 num := (hsm_12 3 (by omega)).trans hNum
  have hf_12_4 : C_4 4 = eI g 30 pgs := (hsm_12 4 (by omega)).trans hPgs
  have hf_12_5 : C_4 5 = .inr (0, [.ref (aD g 6), .ref (aD g 7), .ref (aD g 8)]) := (hsm_12 5 (by omega)).trans hCi
  have hf_12_6 : C_4 6 = eI g 12 cc := (hsm_12 6 (by omega)).trans hCc
  have hf_12_7 : C_4 7 = eI g 72 cn := (hsm_12 7 (by omega)).trans hCn
  have hf_12_8 : C_4 8 = eI g 72 cp := (hsm_12 8 (by omega)).trans hCp
  have hf_12_9 : C_4 9 = .inr (3, [.ref (aD g 10), .ref (aD g 11)]) := (hsm_12 9 (by omega)).trans hPr
  have hf_12_10 : C_4 10 = eI g 12 pn := (hsm_12 10 (by omega)).trans hPc
  have hf_12_11 : C_4 11 = eI g 72 pm := (hsm_12 11 (by omega)).trans hPm
  have hf_12_12 : C_4 12 = .inr (7, [.ref (aD g 13), .ref (aD g 14), .ref (aD g 15), .ref (aD g 16), .ref (aD g 17), .int (iZ (sBds f))]) := (hsm_12 12 (by omega)).trans hVw
  have hf_12_13 : C_4 13 = eI g 30 vb := (hsm_12 13 (by omega)).trans hVb
  have hf_12_14 : C_4 14 = eI g 30 vt := (hsm_12 14 (by omega)).trans hVt
  have hf_12_15 : C_4 15 = eI g 30 vf := (hsm_12 15 (by omega)).trans hVf
  have hf_12_16 : C_4 16 = eI g 72 lt := (hsm_12 16 (by omega)).trans hLe
  have hf_12_17 : C_4 17 = eZ g 72 lo := (hsm_12 17 (by omega)).trans hLo
  have hf_12_18 : C_4 18 = .inr (6, [.ref (aD g 19), .ref (aD g 20), .int (iZ tc)]) := (hsm_12 18 (by omega)).trans hTr
  have hf_12_19 : C_4 19 = eI g 30 np := (hsm_12 19 (by omega)).trans hTn
  have hf_12_20 : C_4 20 = eI g 31 tp := (hsm_12 20 (by omega)).trans hTp
  have hf_12_22 : C_4 22 = eS g 6 (fun k => some (aD g (28 + 11 * k))) := (hsm_12 22 (by omega)).trans hHs
  have hf_12_23 : C_4 23 = .inr (5, [.ref (aD g 24), .int (iZ ty), .ref (aD g 25), .ref (aD g 26), .int (iZ cur), .int (iZ stp)]) := (hsm_12 23 (by omega)).trans hTx
  have hf_12_24 : C_4 24 = eI g 60 tx := (hsm_12 24 (by omega)).trans hXc
  have hf_12_25 : C_4 25 = eI g 6 pl := (hsm_12 25 (by omega)).trans hXl
  have hf_12_26 : C_4 26 = eI g 6 px := (hsm_12 26 (by omega)).trans hXp
  have hB2 := wB_cong hB (fun q hq => hsm_12 q (by omega))
  have hT2 := wT_cong hT (fun q hq => hsm_12 q (by omega))
  have hX2 := wX_cong hX (fun q hq => hsm_12 q (by omega))
  refine z_aload_n 16 K dX8_clean_15 rfl rfl 0 rfl ?_
  refine z_get 19 K hin_X8_clean_X8 0 (by decide) hf_12_0 rfl 0 (by decide) (by decide +kernel : Cond.fieldLink RX8 12 "BriefBuilder" "state" "LBriefBuilder$State;" ∈ wsX8_clean) (fun _ h9 => h9) rfl dX8_clean_16 rfl ?_
  refine z_get 22 K hin_X8_clean_X4 1 (by decide) hf_12_1 rfl 1 (by decide) (by decide +kernel : Cond.fieldLink RX8 111 "BriefBuilder$State" "citations" "LBriefBuilder$Citations;" ∈ wsX8_clean) (fun _ h9 => h9) rfl dX8_clean_19 rfl ?_
  refine z_iload_n 23 K dX8_clean_22 rfl rfl 1 rfl ?_
  refine z_aload_n 24 K dX8_clean_23 rfl rfl 0 rfl ?_
  refine z_get 27 K hin_X8_clean_X8 0 (by decide) hf_12_0 rfl 1 (by decide) (by decide +kernel : Cond.fieldLink RX8 19 "BriefBuilder" "view" "LBriefBuilder$View;" ∈ wsX8_clean) (fun _ h9 => h9) rfl dX8_clean_24 rfl ?_
  refine z_get 30 K hin_X8_clean_X7 12 (by decide) hf_12_12 rfl 4 (by decide) (by decide +kernel : Cond.fieldLink RX8 139 "BriefBuilder$View" "lost" "[Z" ∈ wsX8_clean) (fun _ h9 => h9) rfl dX8_clean_27 rfl ?_
  refine z_vVi (As := [.int (iZ a), .ref (aD g 17)]) (rest := []) 33 K 5 (by decide) hf_12_5 rfl rfl (m_X0_takeOutLost l g _ a cc cn cp lo hf_12_5 hf_12_6 hf_12_7 hf_12_8 hf_12_17 (by omega) (by omega) hVR.2.2.2) (cwV 2 K.1.2.2.2.2 gX8_clean_X0_takeOutLost rfl rfl rfl (by decide +kernel) ⟨Nat.le_of_ble_eq_true rfl, Nat.le_of_ble_eq_true rfl⟩) rfl (Nat.le_of_ble_eq_true rfl) dX8_clean_30 rfl ⟨Nat.le_of_ble_eq_true rfl, Nat.le_of_ble_eq_true rfl⟩ rfl (fun z_5 C_6 hp_30 => ?_)
  refine z_C hp_30.1 ?_
  refine z_top (cc a - (iLf lo a (cc a))) hp_30.2 ?_
  refine z_istore_n (lv' := [(2, .int (iZ (cc a - (iLf lo a (cc a))))), (0, .ref (aD g 0)), (1, .int (iZ a))]) 34 K dX8_clean_33 rfl rfl (by decide) rfl ?_
  refine z_aload_n 35 K dX8_clean_34 rfl rfl 1 rfl ?_
  refine z_get 38 K hin_X8_clean_X8 0 (by decide) ((va_up_ne _ _ (by decide)).trans ((va_up_ne _ _ (by decide)).trans ((va_up_ne _ _ (by decide)).trans hf_12_0))) rfl 1 (by decide) (by decide +kernel : Cond.fieldLink RX8 19 "BriefBuilder" "view" "LBriefBuilder$View;" ∈ wsX8_clean) (fun _ h9 => h9) rfl dX8_clean_35 rfl ?_
  refine z_aload_n 39 K dX8_clean_38 rfl rfl 1 rfl ?_
  refine z_get 42 K hin_X8_clean_X8 0 (by decide) ((va_up_ne _ _ (by decide)).trans ((va_up_ne _ _ (by decide)).trans ((va_up_ne _ _ (by decide)).trans hf_12_0))) rfl 0 (by decide) (by decide +kernel : Cond.fieldLink RX8 12 "BriefBuilder" "state" "LBriefBuilder$State;" ∈ wsX8_clean) (fun _ h9 => h9) rfl dX8_clean_39 rfl ?_
  have hw2 : WF (mClean f a) (cap) := WF_clean hR hVR hw (by omega)
  have hR2 : RS (mClean f a) num pgs (zu cc a (iLf lo a (cc a))) (iCl cn lo a (cc a)) (iCl cp lo a (cc a)) pn pm := (RS_clean hR hVR hw (by omega)).1
  have e1 : f 1 = (mClean f a) 1 := ((mClean_at hw (a := a) (by omega)).1 1 (by omega)).symm
  have e2 : f 2 = (mClean f a) 2 := ((mClean_at hw (a := a) (by omega)).1 2 (by omega)).symm
  have e3 : f 0 = (mClean f a) 0 := ((mClean_at hw (a := a) (by omega)).1 0 (by omega)).symm
  have hpg2 : ∀ j, 0 ≤ j → j < f 1 → 0 ≤ pgs j ∧ pgs j ≤ 60 := by
    intro j j0 j1
    rw [e1] at j1
    exact hR2.hpg hw2 j j0 j1
  have hbp2 := hw2.bp
  have hn2 := hw2.n
  refine z_vVv (As := [.ref (aD g 1)]) (rest := []) 45 K 12 (by decide) ((va_up_ne _ _ (by decide)).trans ((va_up_ne _ _ (by decide)).trans ((va_up_ne _ _ (by decide)).trans hf_12_12))) rfl rfl (m_X7_follow l g _ (sBds f) vb vt vf lt lo (f 1) (f 2) (f 0) num pgs (zu cc a (iLf lo a (cc a))) (iCl cn lo a (cc a)) (iCl cp lo a (cc a)) ((va_up_ne _ _ (by decide)).trans ((va_up_ne _ _ (by decide)).trans ((va_up_ne _ _ (by decide)).trans hf_12_12))) ((va_up_ne _ _ (by decide)).trans ((va_up_ne _ _ (by decide)).trans ((va_up_ne _ _ (by decide)).trans hf_12_13))) ((va_up_ne _ _ (by decide)).trans ((va_up_ne _ _ (by decide)).trans ((va_up_ne _ _ (by decide)).trans hf_12_14))) ((va_up_ne _ _ (by decide)).trans ((va_up_ne _ _ (by decide)).trans ((va_up_ne _ _ (by decide)).trans hf_12_15))) ((va_up_ne _ _ (by decide)).trans ((va_up_ne _ _ (by decide)).trans ((va_up_ne _ _ (by decide)).trans hf_12_16))) ((va_up_ne _ _ (by decide)).trans ((va_up_ne _ _ (by decide)).trans ((va_up_ne _ _ (by decide)).trans hf_12_17))) ((va_up_ne _ _ (by decide)).trans ((va_up_ne _ _ (by decide)).trans ((va_up_ne _ _ (by decide)).trans hf_12_1))) ((va_up_ne _ _ (by decide)).trans ((va_up_ne _ _ (by decide)).trans ((va_up_ne _ _ (by decide)).trans hf_12_2))) ((va_up_ne _ _ (by decide)).trans ((va_up_ne _ _ (by decide)).trans ((va_up_ne _ _ (by decide)).trans hf_12_3))) ((va_up_ne _ _ (by decide)).trans ((va_up_ne _ _ (by decide)).trans ((va_up_ne _ _ (by decide)).trans hf_12_4))) ((va_up_ne _ _ (by decide)).trans ((va_up_ne _ _ (by decide)).trans ((va_up_ne _ _ (by decide)).trans hf_12_5))) (va_up_eq _ 6 _) ((va_up_ne _ _ (by decide)).trans ((va_up_ne _ _ (by decide)).trans (va_up_eq _ 7 _))) ((va_up_ne _ _ (by decide)).trans (va_up_eq _ 8 _)) (by omega) (by omega) hpg2 (hR2.hcc hw2) hVR.2.2.1 hVR.2.2.2 hR2.r1 hR2.r2 (hR2.hcp hw2)) (cwV 1 K.1.2.2.2.2 gX8_clean_X7_follow rfl rfl rfl (by decide +kernel) ⟨Nat.le_of_ble_eq_true rfl, Nat.le_of_ble_eq_true rfl⟩) rfl (Nat.le_of_ble_eq_true rfl) dX8_clean_42 rfl ⟨Nat.le_of_ble_eq_true rfl, Nat.le_of_ble_eq_true rfl⟩ rfl (fun C_8 hp_42 => ?_)
  obtain ⟨w13_9, w14_10, w15_11, w16_12, w17_13, hC_42, hvf_42, hcf_42, hl16_42, hl17_42⟩ := hp_42
  refine z_C hC_42 ?_
  refine z_iload_n 46 K dX8_clean_45 rfl rfl 0 rfl ?_
  exact z_iret K rfl dX8_clean_46 ⟨IW_mk hB2 hT2 hX2 hHn_12 (fun q hq => ((va_up_ne _ _ (by omega)).trans ((va_up_ne _ _ (by omega)).trans ((va_up_ne _ _ (by omega)).trans ((va_up_ne _ _ (by omega)).trans ((va_up_ne _ _ (by omega)).trans ((va_up_ne _ _ (by omega)).trans ((va_up_ne _ _ (by omega)).trans ((va_up_ne _ _ (by omega)).trans ((va_up_ne _ _ (by omega)).trans rfl)))))))))) ⟨((va_up_ne _ _ (by decide)).trans ((va_up_ne _ _ (by decide)).trans ((va_up_ne _ _ (by decide)).trans ((va_up_ne _ _ (by decide)).trans ((va_up_ne _ _ (by decide)).trans ((va_up_ne _ _ (by decide)).trans ((va_up_ne _ _ (by decide)).trans ((va_up_ne _ _ (by decide)).trans ((va_up_ne _ _ (by decide)).trans hf_12_1))))))))), ((va_up_ne _ _ (by decide)).trans ((va_up_ne _ _ (by decide)).trans ((va_up_ne _ _ (by decide)).trans ((va_up_ne _ _ (by decide)).trans ((va_up_ne _ _ (by decide)).trans ((va_up_ne _ _ (by decide)).trans ((va_up_ne _ _ (by decide)).trans ((va_up_ne _ _ (by decide)).trans ((va_up_ne _ _ (by decide)).trans hf_12_2))))))))), ((va_up_ne _ _ (by decide)).trans ((va_up_ne _ _ (by decide)).trans ((va_up_ne _ _ (by decide)).trans ((va_up_ne _ _ (by decide)).trans ((va_up_ne _ _ (by decide)).trans ((va_up_ne _ _ (by decide)).trans ((va_up_ne _ _ (by decide)).trans ((va_up_ne _ _ (by decide)).trans ((va_up_ne _ _ (by decide)).trans hf_12_3))))))))), ((va_up_ne _ _ (by decide)).trans ((va_up_ne _ _ (by decide)).trans ((va_up_ne _ _ (by decide)).trans ((va_up_ne _ _ (by decide)).trans ((va_up_ne _ _ (by decide)).trans ((va_up_ne _ _ (by decide)).trans ((va_up_ne _ _ (by decide)).trans ((va_up_ne _ _ (by decide)).trans ((va_up_ne _ _ (by decide)).trans hf_12_4))))))))), ((va_up_ne _ _ (by decide)).trans ((va_up_ne _ _ (by decide)).trans ((va_up_ne _ _ (by decide)).trans ((va_up_ne _ _ (by decide)).trans ((va_up_ne _ _ (by decide)).trans ((va_up_ne _ _ (by decide)).trans ((va_up_ne _ _ (by decide)).trans ((va_up_ne _ _ (by decide)).trans ((va_up_ne _ _ (by decide)).trans hf_12_5))))))))), ((va_up_ne _ _ (by decide)).trans ((va_up_ne _ _ (by decide)).trans ((va_up_ne _ _ (by decide)).trans ((va_up_ne _ _ (by decide)).trans ((va_up_ne _ _ (by decide)).trans ((va_up_ne _ _ (by decide)).trans (va_up_eq _ 6 _))))))), ((va_up_ne _ _ (by decide)).trans ((va_up_ne _ _ (by decide)).trans ((va_up_ne _ _ (by decide)).trans ((va_up_ne _ _ (by decide)).trans ((va_up_ne _ _ (by decide)).trans ((va_up_ne _ _ (by decide)).trans ((va_up_ne _ _ (by decide)).trans ((va_up_ne _ _ (by decide)).trans (va_up_eq _ 7 _))))))))), ((va_up_ne _ _ (by decide)).trans ((va_up_ne _ _ (by decide)).trans ((va_up_ne _ _ (by decide)).trans ((va_up_ne _ _ (by decide)).trans ((va_up_ne _ _ (by decide)).trans ((va_up_ne _ _ (by decide)).trans ((va_up_ne _ _ (by decide)).trans (va_up_eq _ 8 _)))))))), ((va_up_ne _ _ (by decide)).trans ((va_up_ne _ _ (by decide)).trans ((va_up_ne _ _ (by decide)).trans ((va_up_ne _ _ (by decide)).trans ((va_up_ne _ _ (by decide)).trans ((va_up_ne _ _ (by decide)).trans ((va_up_ne _ _ (by decide)).trans ((va_up_ne _ _ (by decide)).trans ((va_up_ne _ _ (by decide)).trans hf_12_9))))))))), ((va_up_ne _ _ (by decide)).trans ((va_up_ne _ _ (by decide)).trans ((va_up_ne _ _ (by decide)).trans ((va_up_ne _ _ (by decide)).trans ((va_up_ne _ _ (by decide)).trans ((va_up_ne _ _ (by decide)).trans ((va_up_ne _ _ (by decide)).trans ((va_up_ne _ _ (by decide)).trans ((va_up_ne _ _ (by decide)).trans hf_12_10))))))))), ((va_up_ne _ _ (by decide)).trans ((va_up_ne _ _ (by decide)).trans ((va_up_ne _ _ (by decide)).trans ((va_up_ne _ _ (by decide)).trans ((va_up_ne _ _ (by decide)).trans ((va_up_ne _ _ (by decide)).trans ((va_up_ne _ _ (by decide)).trans ((va_up_ne _ _ (by decide)).trans ((va_up_ne _ _ (by decide)).trans hf_12_11)))))))))⟩ e1 e2 e3 hR2 hw2 ⟨((va_up_ne _ _ (by decide)).trans ((va_up_ne _ _ (by decide)).trans (va_up_eq _ 12 _))), ((va_up_ne _ _ (by decide)).trans ((va_up_ne _ _ (by decide)).trans ((va_up_ne _ _ (by decide)).trans ((va_up_ne _ _ (by decide)).trans ((va_up_ne _ _ (by decide)).trans (va_up_eq _ 13 _)))))), ((va_up_ne _ _ (by decide)).trans ((va_up_ne _ _ (by decide)).trans ((va_up_ne _ _ (by decide)).trans ((va_up_ne _ _ (by decide)).trans (va_up_eq _ 14 _))))), ((va_up_ne _ _ (by decide)).trans ((va_up_ne _ _ (by decide)).trans ((va_up_ne _ _ (by decide)).trans (va_up_eq _ 15 _)))), ((va_up_ne _ _ (by decide)).trans (va_up_eq _ 16 _)), (va_up_eq _ 17 _)⟩ rfl hvf_42 hcf_42 hl16_42 hl17_42, fun q hq => (((va_up_ne _ _ (by omega)).trans ((va_up_ne _ _ (by omega)).trans ((va_up_ne _ _ (by omega)).trans ((va_up_ne _ _ (by omega)).trans ((va_up_ne _ _ (by omega)).trans ((va_up_ne _ _ (by omega)).trans ((va_up_ne _ _ (by omega)).trans ((va_up_ne _ _ (by omega)).trans ((va_up_ne _ _ (by omega)).trans rfl)))))))))).trans (hsm_12 q (by omega)), (by rw [(RS_clean hR hVR hw (a := a) (by omega)).2, hca.1])⟩
end ZIM
