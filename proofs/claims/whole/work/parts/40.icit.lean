/-! the class: texts, in the reference's words -/
section ZIT4
theorem IW_mk2 {g : zG} {C0 C' : Nat → va_E} {f past tx : Int → Int} {k ty cap n1 n2 n3 nb : Int} {num pgs cc cn cp pn pm vb vt vf lt lo : Int → Int} (hB : wB g C0) (hT : wT g C0) (hX : wX g C' ty tx) (hH : wH g C0 k past) (hag : ∀ q, (q = 0 ∨ (18 ≤ q ∧ q < 23) ∨ (24 ≤ q ∧ q < 94)) → C' q = C0 q)
    (hL : sL g C' n1 n2 n3 num pgs cc cn cp pn pm) (e1 : n1 = f 1) (e2 : n2 = f 2) (e3 : n3 = f 0) (hR : RS f num pgs cc cn cp pn pm) (hw : WF f cap) (hV : sV g C' nb vb vt vf lt lo) (hnb : nb = zBnd pgs n3 n1)
    (h1 : ∀ j, 0 ≤ j → j < n1 → vb j = zBn pgs n3 j ∧ vt j = zTb pgs n3 j ∧ vf j = zFp pgs n3 j)
    (h2 : ∀ a2 b2, 0 ≤ a2 → a2 < 12 → 0 ≤ b2 → b2 < cc a2 → b2 ≤ 5 → 6 * a2 + b2 < 72 → lt (6 * a2 + b2) = iLet num n1 cn (6 * a2 + b2) ∧ lo (6 * a2 + b2) = b2i (iLost num pgs n1 cn cp (6 * a2 + b2)))
    (h3 : ∀ j, -1 ≤ lt j ∧ lt j ≤ 29) (h4 : ∀ j, lo j = 0 ∨ lo j = 1) : IW g C' f k past ty tx := by
  subst e1; subst e2; subst e3; subst hnb
  rw [hR.bnd hw.n.1] at hV
  exact ⟨wB_cong hB (fun q hq => hag q (by omega)), ⟨num, pgs, cc, cn, cp, pn, pm, hL, hR⟩, ⟨vb, vt, vf, lt, lo, hV, VR_mk hR hw h1 h2 h3 h4⟩, wT_cong hT (fun q hq => hag q (by omega)), wH_cong hH (fun q hq => hag q (by omega)), hX⟩
/-- what is told lies in its ranges -/
theorem tRun_told (tx : Int → Int) (ty : Int) : ∀ (m : Nat) (n i : Int) (td : Int → Int), 0 ≤ n → (∀ j, 0 ≤ j → j < n → 0 ≤ td (2 * j) ∧ td (2 * j) ≤ 29 ∧ 1 ≤ td (2 * j + 1) ∧ td (2 * j + 1) ≤ 60) → ∀ j, 0 ≤ j → j < (tRun tx ty m n i td).2.2.1 → 0 ≤ (tRun tx ty m n i td).2.2.2 (2 * j) ∧ (tRun tx ty m n i td).2.2.2 (2 * j) ≤ 29 ∧ 1 ≤ (tRun tx ty m n i td).2.2.2 (2 * j + 1) ∧ (tRun tx ty m n i td).2.2.2 (2 * j + 1) ≤ 60
  | 0, n, i, td, _, h => h
  | m + 1, n, i, td, h0, h => by
    rw [tRun]
    by_cases c : cOk tx ty i = true
    · have h2 : ∀ j, 0 ≤ j → j < n + 1 → 0 ≤ tPut tx ty i n td (2 * j) ∧ tPut tx ty i n td (2 * j) ≤ 29 ∧ 1 ≤ tPut tx ty i n td (2 * j + 1) ∧ tPut tx ty i n td (2 * j + 1) ≤ 60 := by
        intro j j0 j1
        have q1 := cLt_rng c
        have q2 := cPage_rng c
        unfold tPut
        by_cases d : j = n
        · subst d
          rw [zu_ne _ _ (by omega), zu_eq, zu_eq]
          omega
        · rw [zu_ne _ _ (by omega), zu_ne _ _ (by omega), zu_ne _ _ (by omega), zu_ne _ _ (by omega)]
          exact h j j0 (by omega)
      rw [if_pos c]
      by_cases d : cMore tx ty i n = true
      · rw [if_pos d]
        exact tRun_told tx ty m (n + 1) _ _ (by omega) h2
      · rw [if_neg d]
        exact h2
    · rw [if_neg c]
      exact h
theorem tAll_told (tx td : Int → Int) (ty : Int) : ∀ j, 0 ≤ j → j < (tAll tx ty td).2.2.1 → 0 ≤ (tAll tx ty td).2.2.2 (2 * j) ∧ (tAll tx ty td).2.2.2 (2 * j) ≤ 29 ∧ 1 ≤ (tAll tx ty td).2.2.2 (2 * j + 1) ∧ (tAll tx ty td).2.2.2 (2 * j + 1) ≤ 60 := tRun_told tx ty 6 0 0 td (by omega) (fun j j0 j1 => by omega)
theorem tGood_t {td : Int → Int} {n m : Int} : tGood td n m = true ↔ ∀ j, 0 ≤ j → j < n → 0 ≤ td (2 * j) ∧ td (2 * j) ≤ m - 1 := by
  unfold tGood
  rw [Bool.not_eq_true', zany_f]
  constructor
  · intro h j j0 j1
    have q := h j j0 j1
    rw [Bool.not_eq_false'] at q
    exact of_decide_eq_true q
  · intro h j j0 j1
    show (!decide (0 ≤ td (2 * j) ∧ td (2 * j) ≤ m - 1)) = false
    rw [decide_eq_true (h j j0 j1)]
    rfl
theorem tGood_f {td : Int → Int} {n m j : Int} (j0 : 0 ≤ j) (j1 : j < n) (h : ¬ (0 ≤ td (2 * j) ∧ td (2 * j) ≤ m - 1)) : tGood td n m = false := by
  rw [← Bool.not_eq_true, tGood_t]
  exact fun z => h (z j j0 j1)
theorem tAll_n (tx td : Int → Int) (ty : Int) : 0 ≤ (tAll tx ty td).2.2.1 ∧ (tAll tx ty td).2.2.1 ≤ 6 := by
  have q : ∀ (m : Nat) (n i : Int) (td : Int → Int), n ≤ (tRun tx ty m n i td).2.2.1 ∧ (tRun tx ty m n i td).2.2.1 ≤ n + m := by
    intro m
    induction m with
    | zero =>
      intro n i td
      exact ⟨Int.le_refl _, by show n ≤ n + ((0 : Nat) : Int); omega⟩
    | succ m ih =>
      intro n i td
      rw [tRun]
      by_cases c : cOk tx ty i = true
      · rw [if_pos c]
        by_cases d : cMore tx ty i n = true
        · rw [if_pos d]
          have := ih (n + 1) (cEnd tx ty i + 1) (tPut tx ty i n td)
          omega
        · rw [if_neg d]
          exact ⟨by show n ≤ n + 1; omega, by show n + 1 ≤ n + ((m + 1 : Nat) : Int); omega⟩
      · rw [if_neg c]
        exact ⟨Int.le_refl _, by show n ≤ n + ((m + 1 : Nat) : Int); omega⟩
  have := q 6 0 0 td
  unfold tAll
  omega
theorem RS_zero {f num pgs cc cn cp pn pm : Int → Int} {cap a : Int} (hR : RS f num pgs cc cn cp pn pm) (hw : WF f cap) (ha : 0 ≤ a ∧ a < 12) : RS (zu f (32 * a + 65) 0) num pgs (zu cc a 0) cn cp pn pm := by
  have hn := hw.n
  refine RS_ci hR (fun j j0 j1 _ => zu_ne _ _ (by omega)) hn.2 (fun a2 d a0 a1 d0 d1 => zu_ne _ _ (by omega)) (fun a2 a0 a1 => (hw.pa a2 a0 a1).2.2.2) (fun a2 a0 a1 => ?_) (fun a2 b a0 a1 b0 b1 => ?_) hR.r2
  · by_cases c : a2 = a
    · subst c
      rw [zu_eq, zu_eq]
    · rw [zu_ne _ _ c, zu_ne _ _ (by omega)]
      exact (hR.pa a2 a0 a1).1
  · by_cases c : a2 = a
    · subst c
      rw [zu_eq] at b1
      omega
    · have q := hw.pa a2 a0 a1
      rw [zu_ne _ _ (by omega)] at b1
      rw [zu_ne _ _ (by omega), zu_ne _ _ (by omega)]
      exact hR.ci a2 b a0 a1 b0 b1
theorem WF_zero {f : Int → Int} {cap a : Int} (hw : WF f cap) (ha : 0 ≤ a ∧ a < 12) : WF (zu f (32 * a + 65) 0) cap := by
  have e2 : zu f (32 * a + 65) 0 2 = f 2 := zu_ne _ _ (by omega)
  have e9 : ∀ a2 d, 0 ≤ a2 → a2 < 12 → 66 ≤ d → d < 97 → zu f (32 * a + 65) 0 (32 * a2 + d) = f (32 * a2 + d) := fun a2 d _ _ d0 d1 => zu_ne _ _ (by omega)
  refine WF_ci hw (Rg_zu hw.rg (by omega)) (fun j j0 j1 _ => zu_ne _ _ (by omega)) (by rw [e2]; have := hw.nx; omega) (fun a2 a0 a1 => ?_) (fun a2 b a0 a1 b0 b1 => ?_) (fun a2 b a0 a1 b0 b1 => ?_)
  · have q := hw.pa a2 a0 a1
    rw [e9 a2 78 a0 a1 (by omega) (by omega)]
    by_cases c : a2 = a
    · subst c
      rw [zu_eq]
      omega
    · rw [zu_ne _ _ (by omega)]
      exact q
  · by_cases c : a2 = a
    · subst c
      rw [zu_eq] at b1
      omega
    · have q := hw.pa a2 a0 a1
      rw [zu_ne _ _ (by omega)] at b1
      rw [e2, zu_ne _ _ (by omega), zu_ne _ _ (by omega)]
      exact hw.ci a2 b a0 a1 b0 b1
  · have q := hw.pa a2 a0 a1
    rw [e9 a2 78 a0 a1 (by omega) (by omega)] at b1
    have g1 := e9 a2 (3 * b + 79) a0 a1 (by omega) (by omega)
    have g2 := e9 a2 (3 * b + 80) a0 a1 (by omega) (by omega)
    have g3 := e9 a2 (3 * b + 81) a0 a1 (by omega) (by omega)
    rw [show 32 * a2 + (3 * b + 79) = 32 * a2 + 3 * b + 79 by omega] at g1
    rw [show 32 * a2 + (3 * b + 80) = 32 * a2 + 3 * b + 80 by omega] at g2
    rw [show 32 * a2 + (3 * b + 81) = 32 * a2 + 3 * b + 81 by omega] at g3
    rw [g1, g2, g3]
    exact hw.pr a2 b a0 a1 b0 b1
/-- naming one after the other -/
theorem nms_012 {f td : Int → Int} {a n : Int} (ha : 0 ≤ a) (hn : 0 ≤ n) : mNms f a td n 1 = f 1 ∧ mNms f a td n 2 = f 2 ∧ mNms f a td n 0 = f 0 := by
  obtain ⟨m, rfl⟩ : ∃ m : Nat, n = (m : Int) := ⟨n.toNat, by omega⟩
  clear hn
  induction m with
  | zero =>
    rw [show ((0 : Nat) : Int) = 0 by rfl, mNms_0]
    exact ⟨zu_ne _ _ (by omega), zu_ne _ _ (by omega), zu_ne _ _ (by omega)⟩
  | succ m ih =>
    rw [show ((m + 1 : Nat) : Int) = (m : Int) + 1 by omega, mNms_1 (by omega)]
    have q := mName_012 (mNms f a td m) (a := a) (p := td (2 * m)) (y := td (2 * m + 1)) ha (by rw [mNms_n (by omega)]; omega)
    rw [q.1, q.2.1, q.2.2]
    exact ih
set_option maxHeartbeats 4000000 in
set_option maxRecDepth 100000 in
theorem a_X8_firstError (l : Launch) (g : zG) (C : Nat → va_E) (td : Int → Int) (f : Int → Int) (past : Int → Int) (tx : Int → Int) (k : Int) (ty : Int) (cap : Int) (hI : IW g C f k past ty tx) (hP : PW cap f k past ty tx) : Met l yX8_firstError wsX8_firstError ({ frames := 4, cells := 0, slots := 0, locals := 85 } : Room) (zPre g C [.ref (aD g 0)]) (zQi g (fun z C' => IW g C' f k past ty tx ∧ zSame C C' ∧ z = sFirst tx ty td)) 0 0 (zA g) := by
  refine z_enter RX8 rfl (by decide) rfl (Nat.le_of_ble_eq_true rfl) ?_
  intro p e s m args below meth c K harg
  refine z_sub (lv' := [(0, .ref (aD g 0))]) [0] rfl ?_
  have hI0 := hI
  obtain ⟨hB, hL, hV, hT, hH, hX⟩ := hI
  obtain ⟨hMa, hSp⟩ := id hB
  obtain ⟨num, pgs, cc, cn, cp, pn, pm, ⟨hSt, hEx, hNum, hPgs, hCi, hCc, hCn, hCp, hPr, hPc, hPm⟩, hR⟩ := id hL
  obtain ⟨vb, vt, vf, lt, lo, ⟨hVw, hVb, hVt, hVf, hLe, hLo⟩, hVR⟩ := id hV
  obtain ⟨tc, np, tp, hTr, hTn, hTp, hnp⟩ := id hT
  obtain ⟨cur, stp, pl, px, hTx, hXc, hXl, hXp, hpx⟩ := id hX
  obtain ⟨old, hHi, hHs, hho, -, -⟩ := id hH
  obtain ⟨hw, hk, hpst, hty, htxr, hrtx, hrp, hcap⟩ := id hP
  have hn := hw.n
  have hnx := hw.nx
  have hbp := hw.bp
  refine z_aload_n 1 K dX8_firstError_0 rfl rfl 0 rfl ?_
  refine z_get 4 K hin_X8_firstError_X8 0 (by decide) hMa rfl 4 (by decide) (by decide +kernel : Cond.fieldLink RX8 40 "BriefBuilder" "text" "LBriefBuilder$Text;" ∈ wsX8_firstError) (fun _ h9 => h9) rfl dX8_firstError_1 rfl ?_
  refine z_vVi (As := []) (rest := []) 7 K 23 (by decide) hTx rfl rfl (m_X5_read l g _ ty cur stp tx pl px hTx hXc hXl hXp (by omega) hpx (fun j j0 j1 => by have q := htxr j j0 j1; omega)) (cwV 0 K.1.2.2.2.2 gX8_firstError_X5_read rfl rfl rfl (by decide +kernel) ⟨Nat.le_of_ble_eq_true rfl, Nat.le_of_ble_eq_true rfl⟩) rfl (Nat.le_of_ble_eq_true rfl) dX8_firstError_4 rfl ⟨Nat.le_of_ble_eq_true rfl, Nat.le_of_ble_eq_true rfl⟩ rfl (fun z_1 C_2 hp_4 => ?_)
  refine z_C hp_4.1 ?_
  refine z_top ((aAll tx ty pl px).1) hp_4.2 ?_
  exact z_iret K rfl dX8_firstError_7 ⟨IW_tx hI0 (fun q hq => ((va_up_ne _ _ (by omega)).trans ((va_up_ne _ _ (by omega)).trans ((va_up_ne _ _ (by omega)).trans rfl)))) ⟨_, _, _, _, (va_up_eq _ 23 _), ((va_up_ne _ _ (by decide)).trans ((va_up_ne _ _ (by decide)).trans ((va_up_ne _ _ (by decide)).trans hXc))), ((va_up_ne _ _ (by decide)).trans ((va_up_ne _ _ (by decide)).trans (va_up_eq _ 25 _))), ((va_up_ne _ _ (by decide)).trans (va_up_eq _ 26 _)), (aAll_px hpx).1⟩, fun q hq => ((va_up_ne _ _ (by omega)).trans ((va_up_ne _ _ (by omega)).trans ((va_up_ne _ _ (by omega)).trans rfl))), tx_first tx pl px td hty.1⟩
set_option maxRecDepth 20000 in
theorem hin_X8_citeAll_X1 : ∀ w ∈ wsX10, w ∈ wsX8_citeAll := by decide +kernel
set_option maxRecDepth 20000 in
theorem hin_X8_citeAll_X4 : ∀ w ∈ wsX40, w ∈ wsX8_citeAll := by decide +kernel
set_option maxRecDepth 20000 in
theorem hin_X8_citeAll_X5 : ∀ w ∈ wsX50, w ∈ wsX8_citeAll := by decide +kernel
set_option maxRecDepth 20000 in
theorem hin_X8_citeAll_X8 : ∀ w ∈ wsX80, w ∈ wsX8_citeAll := by decide +kernel
set_option maxRecDepth 20000 in
theorem hat1_X8_citeAll_67 : ∀ w ∈ (vx_atS RX8 110 "java/lang/IllegalStateException" ["java/lang/RuntimeException", "java/lang/Exception"]).filter goodWord, w ∈ wsX8_citeAll := by decide +kernel
set_option maxRecDepth 20000 in
theorem hat1_X8_citeAll_22 : ∀ w ∈ (vx_atS RX8 124 "java/lang/IllegalArgumentException" ["java/lang/RuntimeException", "java/lang/Exception"]).filter goodWord, w ∈ wsX8_citeAll := by decide +kernel
set_option maxHeartbeats 4000000 in
set_option maxRecDepth 100000 in
theorem x_X8_citeAll (l : Launch) (g : zG) (C : Nat → va_E) (a : Int) (td : Int → Int) (f : Int → Int) (past : Int → Int) (tx : Int → Int) (k : Int) (ty : Int) (cap : Int) (hI : IW g C f k past ty tx) (hP : PW cap f k past ty tx) (h_a : -2147483648 ≤ a ∧ a < 2147483648) (hk9 : kCal f a (tAll tx ty td) ≠ 0) (hlt : l.stackTraces = false) : vx_Met l yX8_citeAll wsX8_citeAll ({ frames := 7, cells := 2, slots := 12, locals := 102 } : Room) (zPre g C [.ref (aD g 0), .int (iZ a)]) (zQi g (fun z C' => False)) (zX g (fun E C' => IW g C' f k past ty tx ∧ zSame C C' ∧ ((E = "java/lang/IndexOutOfBoundsException" ∧ kCal f a (tAll tx ty td) = 1) ∨ (E = "java/lang/IllegalArgumentException" ∧ kCal f a (tAll tx ty td) = 2) ∨ (E = "java/lang/IllegalStateException" ∧ kCal f a (tAll tx ty td) = 3)))) 2 12 (zA g) := by
  refine z_enterX RX8 rfl (by decide) rfl (Nat.le_of_ble_eq_true rfl) ?_
  intro p e s m args below meth c K harg hne
  refine z_sub (lv' := [(0, .ref (aD g 0)), (1, .int (iZ a))]) [0, 1] rfl ?_
  have hI0 := hI
  obtain ⟨hB, hL, hV, hT, hH, hX⟩ := hI
  obtain ⟨hMa, hSp⟩ := id hB
  obtain ⟨num, pgs, cc, cn, cp, pn, pm, ⟨hSt, hEx, hNum, hPgs, hCi, hCc, hCn, hCp, hPr, hPc, hPm⟩, hR⟩ := id hL
  obtain ⟨vb, vt, vf, lt, lo, ⟨hVw, hVb, hVt, hVf, hLe, hLo⟩, hVR⟩ := id hV
  obtain ⟨tc, np, tp, hTr, hTn, hTp, hnp⟩ := id hT
  obtain ⟨cur, stp, pl, px, hTx, hXc, hXl, hXp, hpx⟩ := id hX
  obtain ⟨old, hHi, hHs, hho, -, -⟩ := id hH
  obtain ⟨hw, hk, hpst, hty, htxr, hrtx, hrp, hcap⟩ := id hP
  have hn := hw.n
  have hnx := hw.nx
  have hbp := hw.bp
  refine z_iload_n 1 K dX8_citeAll_0 rfl rfl 1 rfl ?_
  refine z_xSv (As := [.int (iZ a)]) (rest := []) 4 K (m_X8_checkParagraph l g _ a (by omega) hlt) (va_cwS 1 K.1.2.2.2.2 gX8_citeAll_X8_checkParagraph rfl rfl rfl (by decide +kernel) ⟨Nat.le_of_ble_eq_true rfl, Nat.le_of_ble_eq_true rfl⟩) rfl (Nat.le_of_ble_eq_true rfl) dX8_citeAll_1 rfl ⟨Nat.le_of_ble_eq_true rfl, Nat.le_of_ble_eq_true rfl⟩ rfl (fun E9 C9 hx9 => ?_) (fun C_2 hp_1 => ?_)
  · obtain ⟨hE9, rfl, hx9⟩ := hx9
    exact z_out hne K (Nat.le_of_ble_eq_true rfl) (Nat.le_of_ble_eq_true rfl) ⟨hI0, zSame_rf _, Or.inl ⟨hE9, by unfold kCal; rw [if_pos hx9]⟩⟩
  obtain ⟨hC_1, hc_1⟩ := hp_1
  refine z_C hC_1 ?_
  refine z_aload_n 5 K dX8_citeAll_4 rfl rfl 0 rfl ?_
  refine z_get 8 K hin_X8_citeAll_X8 0 (by decide) hMa rfl 4 (by decide) (by decide +kernel : Cond.fieldLink RX8 40 "BriefBuilder" "text" "LBriefBuilder$Text;" ∈ wsX8_citeAll) (fun _ h9 => h9) rfl dX8_citeAll_5 rfl ?_
  refine z_vVi (As := []) (rest := []) 11 K 23 (by decide) hTx rfl rfl (m_X5_read l g _ ty cur stp tx pl px hTx hXc hXl hXp (by omega) hpx (fun j j0 j1 => by have q := htxr j j0 j1; omega)) (cwV 0 K.1.2.2.2.2 gX8_citeAll_X5_read rfl rfl rfl (by decide +kernel) ⟨Nat.le_of_ble_eq_true rfl, Nat.le_of_ble_eq_true rfl⟩) rfl (Nat.le_of_ble_eq_true rfl) dX8_citeAll_8 rfl ⟨by simp only []; omega, by simp only []; omega⟩ rfl (fun z_3 C_4 hp_8 => ?_)
  refine z_C hp_8.1 ?_
  refine z_top ((aAll tx ty pl px).1) hp_8.2 ?_
  have hTX := tx_all tx pl px td hty.1
  have hAP := aAll_px (cds := tx) (pl := pl) (len := ty) hpx
  have hTO := tAll_told tx td ty
  have hTN := tAll_n tx td ty
  have hI9 : IW g (va_up (va_up (va_up C 25 (eI g 6 ((aAll tx ty pl px).2.2.2.1))) 26 (eI g 6 ((aAll tx ty pl px).2.2.2.2))) 23 (.inr (5, [.ref (aD g 24), .int (iZ ty), .ref (aD g 25), .ref (aD g 26), .int (iZ ((aAll tx ty pl px).2.2.1)), .int (iZ ((aAll tx ty pl px).2.1))]))) f k past ty tx := IW_tx hI0 (fun q hq => ((va_up_ne _ _ (by omega)).trans ((va_up_ne _ _ (by omega)).trans ((va_up_ne _ _ (by omega)).trans rfl)))) ⟨_, _, _, _, (va_up_eq _ 23 _), ((va_up_ne _ _ (by decide)).trans ((va_up_ne _ _ (by decide)).trans ((va_up_ne _ _ (by decide)).trans hXc))), ((va_up_ne _ _ (by decide)).trans ((va_up_ne _ _ (by decide)).trans (va_up_eq _ 25 _))), ((va_up_ne _ _ (by decide)).trans (va_up_eq _ 26 _)), hAP.1⟩
  have hS9 : zSame C (va_up (va_up (va_up C 25 (eI g 6 ((aAll tx ty pl px).2.2.2.1))) 26 (eI g 6 ((aAll tx ty pl px).2.2.2.2))) 23 (.inr (5, [.ref (aD g 24), .int (iZ ty), .ref (aD g 25), .ref (aD g 26), .int (iZ ((aAll tx ty pl px).2.2.1)), .int (iZ ((aAll tx ty pl px).2.1))]))) := fun q hq => ((va_up_ne _ _ (by omega)).trans ((va_up_ne _ _ (by omega)).trans ((va_up_ne _ _ (by omega)).trans rfl)))
  refine z_pop 12 K dX8_citeAll_11 rfl rfl ?_
  refine z_aload_n 13 K dX8_citeAll_12 rfl rfl 0 rfl ?_
  refine z_get 16 K hin_X8_citeAll_X8 0 (by decide) ((va_up_ne _ _ (by decide)).trans ((va_up_ne _ _ (by decide)).trans ((va_up_ne _ _ (by decide)).trans hMa))) rfl 4 (by decide) (by decide +kernel : Cond.fieldLink RX8 40 "BriefBuilder" "text" "LBriefBuilder$Text;" ∈ wsX8_citeAll) (fun _ h9 => h9) rfl dX8_citeAll_13 rfl ?_
  refine z_vVi (As := []) (rest := []) 19 K 23 (by decide) (va_up_eq _ 23 _) rfl rfl (m_X5_isComplete l g _ ty ((aAll tx ty pl px).2.2.1) ((aAll tx ty pl px).2.1) (va_up_eq _ 23 _) hAP.2.1) (cwV 0 K.1.2.2.2.2 gX8_citeAll_X5_isComplete rfl rfl rfl (by decide +kernel) ⟨Nat.le_of_ble_eq_true rfl, Nat.le_of_ble_eq_true rfl⟩) rfl (Nat.le_of_ble_eq_true rfl) dX8_citeAll_16 rfl ⟨by simp only []; omega, by simp only []; omega⟩ rfl (fun z_5 C_6 hp_16 => ?_)
  refine z_C hp_16.1 ?_
  refine z_top (b2i (decide (((aAll tx ty pl px).2.1) = 5 ∨ ((aAll tx ty pl px).2.1) = 6))) hp_16.2 ?_
  refine z_if_ne (tgt := 32) 22 K dX8_citeAll_19 rfl (by decide) (b2i_ir _) (fun c_19 => ?_) (fun c_19 => ?_)
  · have hc9 : (tAll tx ty td).1 = true := hTX.2.1.mpr (b2i_decn.mp c_19)
    have hcv := hTX.2.2 hc9
    refine z_iconst 33 K dX8_citeAll_32 rfl ?_
    refine z_istore_n (lv' := [(2, .int (iZ 0)), (0, .ref (aD g 0)), (1, .int (iZ a))]) 34 K dX8_citeAll_33 rfl rfl (by decide) rfl ?_
    have loop_34 : ∀ (n9 : Nat) (j9 : Int), (0 ≤ j9 ∧ j9 ≤ 6) → (∀ j, 0 ≤ j → j < j9 → (aAll tx ty pl px).2.2.2.1 j < f 1) → (7 - j9 < (n9 : Int)) → Z p l e (({ frames := 7, cells := 2, slots := 12, locals := 102 } : Room)) s m args below meth c (vx_MQ below (zQi g (fun z C' => False)) (zX g (fun E C' => IW g C' f k past ty tx ∧ zSame C C' ∧ ((E = "java/lang/IndexOutOfBoundsException" ∧ kCal f a (tAll tx ty td) = 1) ∨ (E = "java/lang/IllegalArgumentException" ∧ kCal f a (tAll tx ty td) = 2) ∨ (E = "java/lang/IllegalStateException" ∧ kCal f a (tAll tx ty td) = 3)))) args s 2 12 (zA g)) g 4 (0 + 1) (0 + 6) (va_up (va_up (va_up C 25 (eI g 6 ((aAll tx ty pl px).2.2.2.1))) 26 (eI g 6 ((aAll tx ty pl px).2.2.2.2))) 23 (.inr (5, [.ref (aD g 24), .int (iZ ty), .ref (aD g 25), .ref (aD g 26), .int (iZ ((aAll tx ty pl px).2.2.1)), .int (iZ ((aAll tx ty pl px).2.1))]))) [(0, .ref (aD g 0)), (1, .int (iZ a)), (2, .int (iZ j9))] 34 [] := by
      intro n9
      induction n9 with
      | zero =>
        intro j9 hkj hgd hm9
        exact absurd hm9 (by omega)
      | succ n9 ih9 =>
        intro j9 hkj hgd hm_34
        have ih_34 := ih9
        clear ih9
        refine z_iload_n 35 K dX8_citeAll_34 rfl rfl 2 rfl ?_
        refine z_aload_n 36 K dX8_citeAll_35 rfl rfl 0 rfl ?_
        refine z_get 39 K hin_X8_citeAll_X8 0 (by decide) ((va_up_ne _ _ (by decide)).trans ((va_up_ne _ _ (by decide)).trans ((va_up_ne _ _ (by decide)).trans hMa))) rfl 4 (by decide) (by decide +kernel : Cond.fieldLink RX8 40 "BriefBuilder" "text" "LBriefBuilder$Text;" ∈ wsX8_citeAll) (fun _ h9 => h9) rfl dX8_citeAll_36 rfl ?_
        refine z_get 42 K hin_X8_citeAll_X5 23 (by decide) (va_up_eq _ 23 _) rfl 4 (by decide) (by decide +kernel : Cond.fieldLink RX8 196 "BriefBuilder$Text" "current" "I" ∈ wsX8_citeAll) (fun _ h9 => h9) rfl dX8_citeAll_39 rfl ?_
        refine z_icmp_gt (tgt := 83) 45 K dX8_citeAll_42 rfl (by decide) (by omega) (by omega) (fun c_42 => ?_) (fun c_42 => ?_)
        · skip
          exact absurd (by unfold kCal; rw [if_neg (fun z => z hc_1), if_neg (by rw [hc9]; decide), if_neg (by rw [tGood_t.mpr (fun j j0 j1 => by have q1 := hcv.2 j j0 j1; have q2 := hTO j j0 j1; have q3 := hgd j j0 (by omega); omega)]; decide)]) hk9
        · skip
          refine z_aload_n 46 K dX8_citeAll_45 rfl rfl 0 rfl ?_
          refine z_get 49 K hin_X8_citeAll_X8 0 (by decide) ((va_up_ne _ _ (by decide)).trans ((va_up_ne _ _ (by decide)).trans ((va_up_ne _ _ (by decide)).trans hMa))) rfl 4 (by decide) (by decide +kernel : Cond.fieldLink RX8 40 "BriefBuilder" "text" "LBriefBuilder$Text;" ∈ wsX8_citeAll) (fun _ h9 => h9) rfl dX8_citeAll_46 rfl ?_
          refine z_get 52 K hin_X8_citeAll_X5 23 (by decide) (va_up_eq _ 23 _) rfl 2 (by decide) (by decide +kernel : Cond.fieldLink RX8 199 "BriefBuilder$Text" "places" "[I" ∈ wsX8_citeAll) (fun _ h9 => h9) rfl dX8_citeAll_49 rfl ?_
          refine z_iload_n 53 K dX8_citeAll_52 rfl rfl 2 rfl ?_
          refine z_iald (f := ((aAll tx ty pl px).2.2.2.1)) 54 K 25 (by decide) ((va_up_ne _ _ (by decide)).trans ((va_up_ne _ _ (by decide)).trans (va_up_eq _ 25 _))) (by omega) (by omega) (by decide) dX8_citeAll_53 rfl ?_
          have hle := hcv.2 j9 (by omega) (by omega)
          have hlr := hTO j9 (by omega) (by omega)
          refine z_aload_n 55 K dX8_citeAll_54 rfl rfl 0 rfl ?_
          refine z_get 58 K hin_X8_citeAll_X8 0 (by decide) ((va_up_ne _ _ (by decide)).trans ((va_up_ne _ _ (by decide)).trans ((va_up_ne _ _ (by decide)).trans hMa))) rfl 0 (by decide) (by decide +kernel : Cond.fieldLink RX8 12 "BriefBuilder" "state" "LBriefBuilder$State;" ∈ wsX8_citeAll) (fun _ h9 => h9) rfl dX8_citeAll_55 rfl ?_
          refine z_get 61 K hin_X8_citeAll_X4 1 (by decide) ((va_up_ne _ _ (by decide)).trans ((va_up_ne _ _ (by decide)).trans ((va_up_ne _ _ (by decide)).trans hSt))) rfl 0 (by decide) (by decide +kernel : Cond.fieldLink RX8 48 "BriefBuilder$State" "exhibits" "LBriefBuilder$Exhibits;" ∈ wsX8_citeAll) (fun _ h9 => h9) rfl dX8_citeAll_58 rfl ?_
          refine z_get 64 K hin_X8_citeAll_X1 2 (by decide) ((va_up_ne _ _ (by decide)).trans ((va_up_ne _ _ (by decide)).trans ((va_up_ne _ _ (by decide)).trans hEx))) rfl 2 (by decide) (by decide +kernel : Cond.fieldLink RX8 95 "BriefBuilder$Exhibits" "count" "I" ∈ wsX8_citeAll) (fun _ h9 => h9) rfl dX8_citeAll_61 rfl ?_
          refine z_icmp_lt (tgt := 77) 67 K dX8_citeAll_64 rfl (by decide) (by omega) (by omega) (fun c_64 => ?_) (fun c_64 => ?_)
          · skip
            refine z_iinc (lv' := [(2, .int (iZ (j9 + 1))), (0, .ref (aD g 0)), (1, .int (iZ a))]) 80 K dX8_citeAll_77 rfl (j9 + 1) rfl 2 rfl (by decide) rfl ?_
            refine z_goto (tgt := 34) K dX8_citeAll_80 (by decide) ?_
            refine z_sub [1, 2, 0] rfl ?_
            exact ih_34 (j9 + 1) (by omega) (lt_step hgd (by omega)) (by omega)
          · skip
            exact z_throw hne K hlt (cls := "java/lang/IllegalStateException") (text := "there is no exhibit with a letter in the buffer") (names := ["java/lang/RuntimeException", "java/lang/Exception"]) (by decide +kernel) (by decide +kernel) (by decide +kernel) (by decide +kernel) (by decide +kernel) hat1_X8_citeAll_67 at_IS_2 at_IS_g dX8_citeAll_67 dX8_citeAll_70 dX8_citeAll_71 dX8_citeAll_73 dX8_citeAll_76 (Nat.le_of_ble_eq_true rfl) (Nat.le_of_ble_eq_true rfl) (Nat.le_of_ble_eq_true rfl) (Nat.le_of_ble_eq_true rfl) (Nat.le_of_ble_eq_true rfl) (Nat.le_of_ble_eq_true rfl) ⟨hI9, hS9, Or.inr (Or.inr (⟨rfl, by unfold kCal; rw [if_neg (fun z => z hc_1), if_neg (by rw [hc9]; decide), if_pos (tGood_f (j := j9) (by omega) (by omega) (by rw [← hle.1]; omega))]⟩))⟩
    refine z_sub [1, 2, 0] rfl ?_
    exact loop_34 (Int.toNat (7 - 0) + 1) 0 (by omega) (fun j j0 j1 => absurd j1 (by omega)) (by omega)
  · have hc8 : (tAll tx ty td).1 = false := by rw [← Bool.not_eq_true]; exact fun z => absurd (hTX.2.1.mp z) (b2i_dec0.mp (by omega))
    exact z_throw hne K hlt (cls := "java/lang/IllegalArgumentException") (text := "the buffer is not complete citations as a text") (names := ["java/lang/RuntimeException", "java/lang/Exception"]) (by decide +kernel) (by decide +kernel) (by decide +kernel) (by decide +kernel) (by decide +kernel) hat1_X8_citeAll_22 at_IA_2 at_IA_g dX8_citeAll_22 dX8_citeAll_25 dX8_citeAll_26 dX8_citeAll_28 dX8_citeAll_31 (Nat.le_of_ble_eq_true rfl) (Nat.le_of_ble_eq_true rfl) (Nat.le_of_ble_eq_true rfl) (Nat.le_of_ble_eq_true rfl) (Nat.le_of_ble_eq_true rfl) (Nat.le_of_ble_eq_true rfl) ⟨hI9, hS9, Or.inr (Or.inl ⟨rfl, by unfold kCal; rw [if_neg (fun z => z hc_1), if_pos hc8]⟩)⟩
set_option maxRecDepth 20000 in
theorem hin_X8_citeAll_X0 : ∀ w ∈ wsX00, w ∈ wsX8_citeAll := by decide +kernel
set_option maxHeartbeats 4000000 in
set_option maxRecDepth 100000 in
theorem a_X8_citeAll (l : Launch) (g : zG) (C : Nat → va_E) (a : Int) (td : Int → Int) (f : Int → Int) (past : Int → Int) (tx : Int → Int) (k : Int) (ty : Int) (cap : Int) (hI : IW g C f k past ty tx) (hP : PW cap f k past ty tx) (h_a : -2147483648 ≤ a ∧ a < 2147483648) (hk9 : kCal f a (tAll tx ty td) = 0) : Met l yX8_citeAll wsX8_citeAll ({ frames := 4, cells := 0, slots := 0, locals := 103 } : Room) (zPre g C [.ref (aD g 0), .int (iZ a)]) (zQi g (fun z C' => IW g C' (mNms f a (tAll tx ty td).2.2.2 (tAll tx ty td).2.2.1) (mKp k + 1) (mSav f past k) 0 tx ∧ zSame C C' ∧ z = f (32 * a + 65))) 0 0 (zA g) := by
  refine z_enter RX8 rfl (by decide) rfl (Nat.le_of_ble_eq_true rfl) ?_
  intro p e s m args below meth c K harg
  refine z_sub (lv' := [(0, .ref (aD g 0)), (1, .int (iZ a))]) [0, 1] rfl ?_
  have hI0 := hI
  obtain ⟨hB, hL, hV, hT, hH, hX⟩ := hI
  obtain ⟨hMa, hSp⟩ := id hB
  obtain ⟨num, pgs, cc, cn, cp, pn, pm, ⟨hSt, hEx, hNum, hPgs, hCi, hCc, hCn, hCp, hPr, hPc, hPm⟩, hR⟩ := id hL
  obtain ⟨vb, vt, vf, lt, lo, ⟨hVw, hVb, hVt, hVf, hLe, hLo⟩, hVR⟩ := id hV
  obtain ⟨tc, np, tp, hTr, hTn, hTp, hnp⟩ := id hT
  obtain ⟨cur, stp, pl, px, hTx, hXc, hXl, hXp, hpx⟩ := id hX
  obtain ⟨old, hHi, hHs, hho, -, -⟩ := id hH
  obtain ⟨hw, hk, hpst, hty, htxr, hrtx, hrp, hcap⟩ := id hP
  have hn := hw.n
  have hnx := hw.nx
  have hbp := hw.bp
  have hqa : 0 ≤ a ∧ a < 12 := by
    unfold kCal at hk9
    split at hk9
    · omega
    · omega
  have hqc : (tAll tx ty td).1 = true := by
    unfold kCal at hk9
    rw [if_neg (fun z => z hqa)] at hk9
    by_cases z : (tAll tx ty td).1 = false
    · rw [if_pos z] at hk9; omega
    · exact Bool.of_not_eq_false z
  have hqg : tGood (tAll tx ty td).2.2.2 (tAll tx ty td).2.2.1 (f 1) = true := by
    unfold kCal at hk9
    rw [if_neg (fun z => z hqa), if_neg (by rw [hqc]; decide)] at hk9
    by_cases z : tGood (tAll tx ty td).2.2.2 (tAll tx ty td).2.2.1 (f 1) = false
    · rw [if_pos z] at hk9; omega
    · exact Bool.of_not_eq_false z
  have hqt := tGood_t.mp hqg
  have hpa := hw.pa a hqa.1 hqa.2
  have hca := hR.pa a hqa.1 hqa.2
  refine z_iload_n 1 K dX8_citeAll_0 rfl rfl 1 rfl ?_
  refine z_vSv (As := [.int (iZ a)]) (rest := []) 4 K (n_X8_checkParagraph l g _ a (by omega) (by omega)) (va_cwS 1 K.1.2.2.2.2 gX8_citeAll_X8_checkParagraph rfl rfl rfl (by decide +kernel) ⟨Nat.le_of_ble_eq_true rfl, Nat.le_of_ble_eq_true rfl⟩) rfl (Nat.le_of_ble_eq_true rfl) dX8_citeAll_1 rfl ⟨Nat.le_of_ble_eq_true rfl, Nat.le_of_ble_eq_true rfl⟩ rfl (fun C_2 hp_1 => ?_)
  refine z_C hp_1 ?_
  refine z_aload_n 5 K dX8_citeAll_4 rfl rfl 0 rfl ?_
  refine z_get 8 K hin_X8_citeAll_X8 0 (by decide) hMa rfl 4 (by decide) (by decide +kernel : Cond.fieldLink RX8 40 "BriefBuilder" "text" "LBriefBuilder$Text;" ∈ wsX8_citeAll) (fun _ h9 => h9) rfl dX8_citeAll_5 rfl ?_
  refine z_vVi (As := []) (rest := []) 11 K 23 (by decide) hTx rfl rfl (m_X5_read l g _ ty cur stp tx pl px hTx hXc hXl hXp (by omega) hpx (fun j j0 j1 => by have q := htxr j j0 j1; omega)) (cwV 0 K.1.2.2.2.2 gX8_citeAll_X5_read rfl rfl rfl (by decide +kernel) ⟨Nat.le_of_ble_eq_true rfl, Nat.le_of_ble_eq_true rfl⟩) rfl (Nat.le_of_ble_eq_true rfl) dX8_citeAll_8 rfl ⟨Nat.le_of_ble_eq_true rfl, Nat.le_of_ble_eq_true rfl⟩ rfl (fun z_3 C_4 hp_8 => ?_)
  refine z_C hp_8.1 ?_
  refine z_top ((aAll tx ty pl px).1) hp_8.2 ?_
  have hTX := tx_all tx pl px td hty.1
  have hAP := aAll_px (cds := tx) (pl := pl) (len := ty) hpx
  have hTO := tAll_told tx td ty
  have hTN := tAll_n tx td ty
  have hI9 : IW g (va_up (va_up (va_up C 25 (eI g 6 ((aAll tx ty pl px).2.2.2.1))) 26 (eI g 6 ((aAll tx ty pl px).2.2.2.2))) 23 (.inr (5, [.ref (aD g 24), .int (iZ ty), .ref (aD g 25), .ref (aD g 26), .int (iZ ((aAll tx ty pl px).2.2.1)), .int (iZ ((aAll tx ty pl px).2.1))]))) f k past ty tx := IW_tx hI0 (fun q hq => ((va_up_ne _ _ (by omega)).trans ((va_up_ne _ _ (by omega)).trans ((va_up_ne _ _ (by omega)).trans rfl)))) ⟨_, _, _, _, (va_up_eq _ 23 _), ((va_up_ne _ _ (by decide)).trans ((va_up_ne _ _ (by decide)).trans ((va_up_ne _ _ (by decide)).trans hXc))), ((va_up_ne _ _ (by decide)).trans ((va_up_ne _ _ (by decide)).trans (va_up_eq _ 25 _))), ((va_up_ne _ _ (by decide)).trans (va_up_eq _ 26 _)), hAP.1⟩
  have hS9 : zSame C (va_up (va_up (va_up C 25 (eI g 6 ((aAll tx ty pl px).2.2.2.1))) 26 (eI g 6 ((aAll tx ty pl px).2.2.2.2))) 23 (.inr (5, [.ref (aD g 24), .int (iZ ty), .ref (aD g 25), .ref (aD g 26), .int (iZ ((aAll tx ty pl px).2.2.1)), .int (iZ ((aAll tx ty pl px).2.1))]))) := fun q hq => ((va_up_ne _ _ (by omega)).trans ((va_up_ne _ _ (by omega)).trans ((va_up_ne _ _ (by omega)).trans rfl)))
  have hcv := hTX.2.2 hqc
  have hst9 := hTX.2.1.mp hqc
  have hH9 : wH g (va_up (va_up (va_up C 25 (eI g 6 ((aAll tx ty pl px).2.2.2.1))) 26 (eI g 6 ((aAll tx ty pl px).2.2.2.2))) 23 (.inr (5, [.ref (aD g 24), .int (iZ ty), .ref (aD g 25), .ref (aD g 26), .int (iZ ((aAll tx ty pl px).2.2.1)), .int (iZ ((aAll tx ty pl px).2.1))]))) k past := hI9.2.2.2.2.1
  have hL9 : wL g (va_up (va_up (va_up C 25 (eI g 6 ((aAll tx ty pl px).2.2.2.1))) 26 (eI g 6 ((aAll tx ty pl px).2.2.2.2))) 23 (.inr (5, [.ref (aD g 24), .int (iZ ty), .ref (aD g 25), .ref (aD g 26), .int (iZ ((aAll tx ty pl px).2.2.1)), .int (iZ ((aAll tx ty pl px).2.1))]))) f := hI9.2.1
  refine z_pop 12 K dX8_citeAll_11 rfl rfl ?_
  refine z_aload_n 13 K dX8_citeAll_12 rfl rfl 0 rfl ?_
  refine z_get 16 K hin_X8_citeAll_X8 0 (by decide) ((va_up_ne _ _ (by decide)).trans ((va_up_ne _ _ (by decide)).trans ((va_up_ne _ _ (by decide)).trans hMa))) rfl 4 (by decide) (by decide +kernel : Cond.fieldLink RX8 40 "BriefBuilder" "text" "LBriefBuilder$Text;" ∈ wsX8_citeAll) (fun _ h9 => h9) rfl dX8_citeAll_13 rfl ?_
  refine z_vVi (As := []) (rest := []) 19 K 23 (by decide) (va_up_eq _ 23 _) rfl rfl (m_X5_isComplete l g _ ty ((aAll tx ty pl px).2.2.1) ((aAll tx ty pl px).2.1) (va_up_eq _ 23 _) hAP.2.1) (cwV 0 K.1.2.2.2.2 gX8_citeAll_X5_isComplete rfl rfl rfl (by decide +kernel) ⟨Nat.le_of_ble_eq_true rfl, Nat.le_of_ble_eq_true rfl⟩) rfl (Nat.le_of_ble_eq_true rfl) dX8_citeAll_16 rfl ⟨Nat.le_of_ble_eq_true rfl, Nat.le_of_ble_eq_true rfl⟩ rfl (fun z_5 C_6 hp_16 => ?_)
  refine z_C hp_16.1 ?_
  refine z_top (b2i (decide (((aAll tx ty pl px).2.1) = 5 ∨ ((aAll tx ty pl px).2.1) = 6))) hp_16.2 ?_
  refine z_top (1) (b2i_1 hst9) ?_
  refine z_if_ne (tgt := 32) 22 K dX8_citeAll_19 rfl (by decide) (by decide) (fun c_19 => ?_) (fun c_19 => ?_)
  rotate_left 1
  · exact absurd c_19 (by decide)
  refine z_iconst 33 K dX8_citeAll_32 rfl ?_
  refine z_istore_n (lv' := [(2, .int (iZ 0)), (0, .ref (aD g 0)), (1, .int (iZ a))]) 34 K dX8_citeAll_33 rfl rfl (by decide) rfl ?_
  have loop_34 : ∀ (n9 : Nat) (j9 : Int), (0 ≤ j9 ∧ j9 ≤ 6) → (7 - j9 < (n9 : Int)) → Z p l e (({ frames := 4, cells := 0, slots := 0, locals := 103 } : Room)) s m args below meth c (MQ below (zQi g (fun z C' => IW g C' (mNms f a (tAll tx ty td).2.2.2 (tAll tx ty td).2.2.1) (mKp k + 1) (mSav f past k) 0 tx ∧ zSame C C' ∧ z = f (32 * a + 65))) args s 0 0 (zA g)) g 4 0 0 (va_up (va_up (va_up C 25 (eI g 6 ((aAll tx ty pl px).2.2.2.1))) 26 (eI g 6 ((aAll tx ty pl px).2.2.2.2))) 23 (.inr (5, [.ref (aD g 24), .int (iZ ty), .ref (aD g 25), .ref (aD g 26), .int (iZ ((aAll tx ty pl px).2.2.1)), .int (iZ ((aAll tx ty pl px).2.1))]))) [(0, .ref (aD g 0)), (1, .int (iZ a)), (2, .int (iZ j9))] 34 [] := by
    intro n9
    induction n9 with
    | zero =>
      intro j9 hkj hm9
      exact absurd hm9 (by omega)
    | succ n9 ih9 =>
      intro j9 hkj hm_34
      have ih_34 := ih9
      clear ih9
      refine z_iload_n 35 K dX8_citeAll_34 rfl rfl 2 rfl ?_
      refine z_aload_n 36 K dX8_citeAll_35 rfl rfl 0 rfl ?_
      refine z_get 39 K hin_X8_citeAll_X8 0 (by decide) ((va_up_ne _ _ (by decide)).trans ((va_up_ne _ _ (by decide)).trans ((va_up_ne _ _ (by decide)).trans hMa))) rfl 4 (by decide) (by decide +kernel : Cond.fieldLink RX8 40 "BriefBuilder" "text" "LBriefBuilder$Text;" ∈ wsX8_citeAll) (fun _ h9 => h9) rfl dX8_citeAll_36 rfl ?_
      refine z_get 42 K hin_X8_citeAll_X5 23 (by decide) (va_up_eq _ 23 _) rfl 4 (by decide) (by decide +kernel : Cond.fieldLink RX8 196 "BriefBuilder$Text" "current" "I" ∈ wsX8_citeAll) (fun _ h9 => h9) rfl dX8_citeAll_39 rfl ?_
      refine z_icmp_gt (tgt := 83) 45 K dX8_citeAll_42 rfl (by decide) (by omega) (by omega) (fun c_42 => ?_) (fun c_42 => ?_)
      · skip
        refine z_aload_n 84 K dX8_citeAll_83 rfl rfl 0 rfl ?_
        refine z_get 87 K hin_X8_citeAll_X8 0 (by decide) ((va_up_ne _ _ (by decide)).trans ((va_up_ne _ _ (by decide)).trans ((va_up_ne _ _ (by decide)).trans hMa))) rfl 3 (by decide) (by decide +kernel : Cond.fieldLink RX8 33 "BriefBuilder" "history" "LBriefBuilder$History;" ∈ wsX8_citeAll) (fun _ h9 => h9) rfl dX8_citeAll_84 rfl ?_
        refine z_aload_n 88 K dX8_citeAll_87 rfl rfl 0 rfl ?_
        refine z_get 91 K hin_X8_citeAll_X8 0 (by decide) ((va_up_ne _ _ (by decide)).trans ((va_up_ne _ _ (by decide)).trans ((va_up_ne _ _ (by decide)).trans hMa))) rfl 0 (by decide) (by decide +kernel : Cond.fieldLink RX8 12 "BriefBuilder" "state" "LBriefBuilder$State;" ∈ wsX8_citeAll) (fun _ h9 => h9) rfl dX8_citeAll_88 rfl ?_
        refine z_vVv (As := [.ref (aD g 1)]) (rest := []) 94 K 21 (by decide) ((va_up_ne _ _ (by decide)).trans ((va_up_ne _ _ (by decide)).trans ((va_up_ne _ _ (by decide)).trans hHi))) rfl rfl (s_X2_save l g _ f past k cap hH9 hL9 hk hw hpst) (cwV 1 K.1.2.2.2.2 gX8_citeAll_X2_save rfl rfl rfl (by decide +kernel) ⟨Nat.le_of_ble_eq_true rfl, Nat.le_of_ble_eq_true rfl⟩) rfl (Nat.le_of_ble_eq_true rfl) dX8_citeAll_91 rfl ⟨Nat.le_of_ble_eq_true rfl, Nat.le_of_ble_eq_true rfl⟩ rfl (fun C_8 hp_91 => ?_)
        obtain ⟨hHn_91, hsm_91⟩ := hp_91
        have hf_91_0 : C_8 0 = .inr (8, [.ref (aD g 1), .ref (aD g 12), .ref (aD g 18), .ref (aD g 21), .ref (aD g 23), .ref (aD g 27)]) := (hsm_91 0 (by omega)).trans ((va_up_ne _ _ (by decide)).trans ((va_up_ne _ _ (by decide)).trans ((va_up_ne _ _ (by decide)).trans hMa)))
        have hf_91_27 : C_8 27 = eI g 30 (fun k => k) := (hsm_91 27 (by omega)).trans ((va_up_ne _ _ (by decide)).trans ((va_up_ne _ _ (by decide)).trans ((va_up_ne _ _ (by decide)).trans hSp)))
        have hf_91_1 : C_8 1 = .inr (4, [.ref (aD g 2), .ref (aD g 5), .ref (aD g 9)]) := (hsm_91 1 (by omega)).trans ((va_up_ne _ _ (by decide)).trans ((va_up_ne _ _ (by decide)).trans ((va_up_ne _ _ (by decide)).trans hSt)))
        have hf_91_2 : C_8 2 = .inr (1, [.ref (aD g 3), .ref (aD g 4), .int (iZ (f 1)), .int (iZ (f 2)), .int (iZ (f 0))]) := (hsm_91 2 (by omega)).trans ((va_up_ne _ _ (by decide)).trans ((va_up_ne _ _ (by decide)).trans ((va_up_ne _ _ (by decide)).trans hEx)))
        have hf_91_3 : C_8 3 = eI g 30 num := (hsm_91 3 (by omega)).trans ((va_up_ne _ _ (by decide)).trans ((va_up_ne _ _ (by decide)).trans ((va_up_ne _ _ (by decide)).trans hNum)))
        have hf_91_4 : C_8 4 = eI g 30 pgs := (hsm_91 4 (by omega)).trans ((va_up_ne _ _ (by decide)).trans ((va_up_ne _ _ (by decide)).trans ((va_up_ne _ _ (by decide)).trans hPgs)))
        have hf_91_5 : C_8 5 = .inr (0, [.ref (aD g 6), .ref (aD g 7), .ref (aD g 8)]) := (hsm_91 5 (by omega)).trans ((va_up_ne _ _ (by decide)).trans ((va_up_ne _ _ (by decide)).trans ((va_up_ne _ _ (by decide)).trans hCi)))
        have hf_91_6 : C_8 6 = eI g 12 cc := (hsm_91 6 (by omega)).trans ((va_up_ne _ _ (by decide)).trans ((va_up_ne _ _ (by decide)).trans ((va_up_ne _ _ (by decide)).trans hCc)))
        have hf_91_7 : C_8 7 = eI g 72 cn := (hsm_91 7 (by omega)).trans ((va_up_ne _ _ (by decide)).trans ((va_up_ne _ _ (by decide)).trans ((va_up_ne _ _ (by decide)).trans hCn)))
        have hf_91_8 : C_8 8 = eI g 72 cp := (hsm_91 8 (by omega)).trans ((va_up_ne _ _ (by decide)).trans ((va_up_ne _ _ (by decide)).trans ((va_up_ne _ _ (by decide)).trans hCp)))
        have hf_91_9 : C_8 9 = .inr (3, [.ref (aD g 10), .ref (aD g 11)]) := (hsm_91 9 (by omega)).trans ((va_up_ne _ _ (by decide)).trans ((va_up_ne _ _ (by decide)).trans ((va_up_ne _ _ (by decide)).trans hPr)))
        have hf_91_10 : C_8 10 = eI g 12 pn := (hsm_91 10 (by omega)).trans ((va_up_ne _ _ (by decide)).trans ((va_up_ne _ _ (by decide)).trans ((va_up_ne _ _ (by decide)).trans hPc)))
        have hf_91_11 : C_8 11 = eI g 72 pm := (hsm_91 11 (by omega)).trans ((va_up_ne _ _ (by decide)).trans ((va_up_ne _ _ (by decide)).trans ((va_up_ne _ _ (by decide)).trans hPm)))
        have hf_91_12 : C_8 12 = .inr (7, [.ref (aD g 13), .ref (aD g 14), .ref (aD g 15), .ref (aD g 16), .ref (aD g 17), .int (iZ (sBds f))]) := (hsm_91 12 (by omega)).trans ((va_up_ne _ _ (by decide)).trans ((va_up_ne _ _ (by decide)).trans ((va_up_ne _ _ (by decide)).trans hVw)))
        have hf_91_13 : C_8 13 = eI g 30 vb := (hsm_91 13 (by omega)).trans ((va_up_ne _ _ (by decide)).trans ((va_up_ne _ _ (by decide)).trans ((va_up_ne _ _ (by decide)).trans hVb)))
        have hf_91_14 : C_8 14 = eI g 30 vt := (hsm_91 14 (by omega)).trans ((va_up_ne _ _ (by decide)).trans ((va_up_ne _ _ (by decide)).trans ((va_up_ne _ _ (by decide)).trans hVt)))
        have hf_91_15 : C_8 15 = eI g 30 vf := (hsm_91 15 (by omega)).trans ((va_up_ne _ _ (by decide)).trans ((va_up_ne _ _ (by decide)).trans ((va_up_ne _ _ (by decide)).trans hVf)))
        have hf_91_16 : C_8 16 = eI g 72 lt := (hsm_91 16 (by omega)).trans ((va_up_ne _ _ (by decide)).trans ((va_up_ne _ _ (by decide)).trans ((va_up_ne _ _ (by decide)).trans hLe)))
        have hf_91_17 : C_8 17 = eZ g 72 lo := (hsm_91 17 (by omega)).trans ((va_up_ne _ _ (by decide)).trans ((va_up_ne _ _ (by decide)).trans ((va_up_ne _ _ (by decide)).trans hLo)))
        have hf_91_18 : C_8 18 = .inr (6, [.ref (aD g 19), .ref (aD g 20), .int (iZ tc)]) := (hsm_91 18 (by omega)).trans ((va_up_ne _ _ (by decide)).trans ((va_up_ne _ _ (by decide)).trans ((va_up_ne _ _ (by decide)).trans hTr)))
        have hf_91_19 : C_8 19 = eI g 30 np := (hsm_91 19 (by omega)).trans ((va_up_ne _ _ (by decide)).trans ((va_up_ne _ _ (by decide)).trans ((va_up_ne _ _ (by decide)).trans hTn)))
        have hf_91_20 : C_8 20 = eI g 31 tp := (hsm_91 20 (by omega)).trans ((va_up_ne _ _ (by decide)).trans ((va_up_ne _ _ (by decide)).trans ((va_up_ne _ _ (by decide)).trans hTp)))
        have hf_91_22 : C_8 22 = eS g 6 (fun k => some (aD g (28 + 11 * k))) := (hsm_91 22 (by omega)).trans ((va_up_ne _ _ (by decide)).trans ((va_up_ne _ _ (by decide)).trans ((va_up_ne _ _ (by decide)).trans hHs)))
        have hf_91_23 : C_8 23 = .inr (5, [.ref (aD g 24), .int (iZ ty), .ref (aD g 25), .ref (aD g 26), .int (iZ ((aAll tx ty pl px).2.2.1)), .int (iZ ((aAll tx ty pl px).2.1))]) := (hsm_91 23 (by omega)).trans (va_up_eq _ 23 _)
        have hf_91_24 : C_8 24 = eI g 60 tx := (hsm_91 24 (by omega)).trans ((va_up_ne _ _ (by decide)).trans ((va_up_ne _ _ (by decide)).trans ((va_up_ne _ _ (by decide)).trans hXc)))
        have hf_91_25 : C_8 25 = eI g 6 ((aAll tx ty pl px).2.2.2.1) := (hsm_91 25 (by omega)).trans ((va_up_ne _ _ (by decide)).trans ((va_up_ne _ _ (by decide)).trans (va_up_eq _ 25 _)))
        have hf_91_26 : C_8 26 = eI g 6 ((aAll tx ty pl px).2.2.2.2) := (hsm_91 26 (by omega)).trans ((va_up_ne _ _ (by decide)).trans (va_up_eq _ 26 _))
        have hB2 := wB_cong hI9.1 (fun q hq => hsm_91 q (by omega))
        have hT2 := wT_cong hI9.2.2.2.1 (fun q hq => hsm_91 q (by omega))
        refine z_aload_n 95 K dX8_citeAll_94 rfl rfl 0 rfl ?_
        refine z_get 98 K hin_X8_citeAll_X8 0 (by decide) hf_91_0 rfl 0 (by decide) (by decide +kernel : Cond.fieldLink RX8 12 "BriefBuilder" "state" "LBriefBuilder$State;" ∈ wsX8_citeAll) (fun _ h9 => h9) rfl dX8_citeAll_95 rfl ?_
        refine z_get 101 K hin_X8_citeAll_X4 1 (by decide) hf_91_1 rfl 1 (by decide) (by decide +kernel : Cond.fieldLink RX8 111 "BriefBuilder$State" "citations" "LBriefBuilder$Citations;" ∈ wsX8_citeAll) (fun _ h9 => h9) rfl dX8_citeAll_98 rfl ?_
        refine z_get 104 K hin_X8_citeAll_X0 5 (by decide) hf_91_5 rfl 0 (by decide) (by decide +kernel : Cond.fieldLink RX8 131 "BriefBuilder$Citations" "counts" "[I" ∈ wsX8_citeAll) (fun _ h9 => h9) rfl dX8_citeAll_101 rfl ?_
        refine z_iload_n 105 K dX8_citeAll_104 rfl rfl 1 rfl ?_
        refine z_iald (f := cc) 106 K 6 (by decide) hf_91_6 (by omega) (by omega) (by decide) dX8_citeAll_105 rfl ?_
        refine z_top (f (32 * a + 65)) hca.1 ?_
        refine z_istore_n (lv' := [(2, .int (iZ (f (32 * a + 65)))), (0, .ref (aD g 0)), (1, .int (iZ a))]) 107 K dX8_citeAll_106 rfl rfl (by decide) rfl ?_
        refine z_aload_n 108 K dX8_citeAll_107 rfl rfl 1 rfl ?_
        refine z_get 111 K hin_X8_citeAll_X8 0 (by decide) hf_91_0 rfl 0 (by decide) (by decide +kernel : Cond.fieldLink RX8 12 "BriefBuilder" "state" "LBriefBuilder$State;" ∈ wsX8_citeAll) (fun _ h9 => h9) rfl dX8_citeAll_108 rfl ?_
        refine z_get 114 K hin_X8_citeAll_X4 1 (by decide) hf_91_1 rfl 1 (by decide) (by decide +kernel : Cond.fieldLink RX8 111 "BriefBuilder$State" "citations" "LBriefBuilder$Citations;" ∈ wsX8_citeAll) (fun _ h9 => h9) rfl dX8_citeAll_111 rfl ?_
        refine z_get 117 K hin_X8_citeAll_X0 5 (by decide) hf_91_5 rfl 0 (by decide) (by decide +kernel : Cond.fieldLink RX8 131 "BriefBuilder$Citations" "counts" "[I" ∈ wsX8_citeAll) (fun _ h9 => h9) rfl dX8_citeAll_114 rfl ?_
        refine z_iload_n 118 K dX8_citeAll_117 rfl rfl 2 rfl ?_
        refine z_iconst 119 K dX8_citeAll_118 rfl ?_
        refine z_iast (f := cc) 120 K 6 (by decide) hf_91_6 (by omega) (by omega) (by decide) dX8_citeAll_119 rfl ?_
        refine z_iconst 121 K dX8_citeAll_120 rfl ?_
        refine z_istore_n (lv' := [(3, .int (iZ 0)), (2, .int (iZ (f (32 * a + 65)))), (0, .ref (aD g 0)), (1, .int (iZ a))]) 122 K dX8_citeAll_121 rfl rfl (by decide) rfl ?_
        have loop_122 : ∀ (n9 : Nat) (hC hN hP : Int → Int) (i9 : Int), (0 ≤ i9 ∧ i9 ≤ (tAll tx ty td).2.2.1) → (RS (mNms f a (tAll tx ty td).2.2.2 i9) num pgs hC hN hP pn pm) → (WF (mNms f a (tAll tx ty td).2.2.2 i9) cap) → ((tAll tx ty td).2.2.1 - i9 < (n9 : Int)) → Z p l e (({ frames := 4, cells := 0, slots := 0, locals := 103 } : Room)) s m args below meth c (MQ below (zQi g (fun z C' => IW g C' (mNms f a (tAll tx ty td).2.2.2 (tAll tx ty td).2.2.1) (mKp k + 1) (mSav f past k) 0 tx ∧ zSame C C' ∧ z = f (32 * a + 65))) args s 0 0 (zA g)) g 4 0 0 (va_up (va_up (va_up C_8 7 (eI g 72 hN)) 8 (eI g 72 hP)) 6 (eI g 12 hC)) [(0, .ref (aD g 0)), (1, .int (iZ a)), (2, .int (iZ (f (32 * a + 65)))), (3, .int (iZ i9))] 122 [] := by
          intro n9
          induction n9 with
          | zero =>
            intro hC hN hP i9 hki hRi hWi hm9
            exact absurd hm9 (by omega)
          | succ n9 ih9 =>
            intro hC hN hP i9 hki hRi hWi hm_122
            have ih_122 := ih9
            clear ih9
            refine z_iload_n 123 K dX8_citeAll_122 rfl rfl 3 rfl ?_
            refine z_aload_n 124 K dX8_citeAll_123 rfl rfl 0 rfl ?_
            refine z_get 127 K hin_X8_citeAll_X8 0 (by decide) ((va_up_ne _ _ (by decide)).trans ((va_up_ne _ _ (by decide)).trans ((va_up_ne _ _ (by decide)).trans hf_91_0))) rfl 4 (by decide) (by decide +kernel : Cond.fieldLink RX8 40 "BriefBuilder" "text" "LBriefBuilder$Text;" ∈ wsX8_citeAll) (fun _ h9 => h9) rfl dX8_citeAll_124 rfl ?_
            refine z_get 130 K hin_X8_citeAll_X5 23 (by decide) ((va_up_ne _ _ (by decide)).trans ((va_up_ne _ _ (by decide)).trans ((va_up_ne _ _ (by decide)).trans hf_91_23))) rfl 4 (by decide) (by decide +kernel : Cond.fieldLink RX8 196 "BriefBuilder$Text" "current" "I" ∈ wsX8_citeAll) (fun _ h9 => h9) rfl dX8_citeAll_127 rfl ?_
            refine z_icmp_gt (tgt := 179) 133 K dX8_citeAll_130 rfl (by decide) (by omega) (by omega) (fun c_130 => ?_) (fun c_130 => ?_)
            · skip
              refine z_aload_n 180 K dX8_citeAll_179 rfl rfl 0 rfl ?_
              refine z_get 183 K hin_X8_citeAll_X8 0 (by decide) ((va_up_ne _ _ (by decide)).trans ((va_up_ne _ _ (by decide)).trans ((va_up_ne _ _ (by decide)).trans hf_91_0))) rfl 4 (by decide) (by decide +kernel : Cond.fieldLink RX8 40 "BriefBuilder" "text" "LBriefBuilder$Text;" ∈ wsX8_citeAll) (fun _ h9 => h9) rfl dX8_citeAll_180 rfl ?_
              refine z_iconst 184 K dX8_citeAll_183 rfl ?_
              refine z_put (ty := .int) 187 K hin_X8_citeAll_X5 tyX5 tyX5_ok nmX5 23 (by decide) ((va_up_ne _ _ (by decide)).trans ((va_up_ne _ _ (by decide)).trans ((va_up_ne _ _ (by decide)).trans hf_91_23))) rfl 1 (by decide) (by decide +kernel : Cond.fieldLink RX8 179 "BriefBuilder$Text" "length" "I" ∈ wsX8_citeAll) (fun _ h9 => h9) rfl (by decide +kernel) rfl rfl (Nat.le_of_ble_eq_true rfl) dX8_citeAll_184 rfl ?_
              show Z p l e (({ frames := 4, cells := 0, slots := 0, locals := 103 } : Room)) s m args below meth c (MQ below (zQi g (fun z C' => IW g C' (mNms f a (tAll tx ty td).2.2.2 (tAll tx ty td).2.2.1) (mKp k + 1) (mSav f past k) 0 tx ∧ zSame C C' ∧ z = f (32 * a + 65))) args s 0 0 (zA g)) g _ _ _ (va_up (va_up (va_up (va_up C_8 7 (eI g 72 hN)) 8 (eI g 72 hP)) 6 (eI g 12 hC)) 23 (.inr (5, [.ref (aD g 24), .int (iZ 0), .ref (aD g 25), .ref (aD g 26), .int (iZ ((aAll tx ty pl px).2.2.1)), .int (iZ ((aAll tx ty pl px).2.1))]))) [(0, .ref (aD g 0)), (1, .int (iZ a)), (2, .int (iZ (f (32 * a + 65)))), (3, .int (iZ i9))] 187 []
              refine z_aload_n 188 K dX8_citeAll_187 rfl rfl 0 rfl ?_
              refine z_get 191 K hin_X8_citeAll_X8 0 (by decide) ((va_up_ne _ _ (by decide)).trans ((va_up_ne _ _ (by decide)).trans ((va_up_ne _ _ (by decide)).trans ((va_up_ne _ _ (by decide)).trans hf_91_0)))) rfl 1 (by decide) (by decide +kernel : Cond.fieldLink RX8 19 "BriefBuilder" "view" "LBriefBuilder$View;" ∈ wsX8_citeAll) (fun _ h9 => h9) rfl dX8_citeAll_188 rfl ?_
              refine z_aload_n 192 K dX8_citeAll_191 rfl rfl 0 rfl ?_
              refine z_get 195 K hin_X8_citeAll_X8 0 (by decide) ((va_up_ne _ _ (by decide)).trans ((va_up_ne _ _ (by decide)).trans ((va_up_ne _ _ (by decide)).trans ((va_up_ne _ _ (by decide)).trans hf_91_0)))) rfl 0 (by decide) (by decide +kernel : Cond.fieldLink RX8 12 "BriefBuilder" "state" "LBriefBuilder$State;" ∈ wsX8_citeAll) (fun _ h9 => h9) rfl dX8_citeAll_192 rfl ?_
              have ei : i9 = (tAll tx ty td).2.2.1 := by omega
              rw [ei] at hRi hWi
              have hw2 : WF (mNms f a (tAll tx ty td).2.2.2 (tAll tx ty td).2.2.1) cap := hWi
              have hR2 := hRi
              have e1 : f 1 = (mNms f a (tAll tx ty td).2.2.2 (tAll tx ty td).2.2.1) 1 := (nms_012 hqa.1 hTN.1).1.symm
              have e2 : f 2 = (mNms f a (tAll tx ty td).2.2.2 (tAll tx ty td).2.2.1) 2 := (nms_012 hqa.1 hTN.1).2.1.symm
              have e3 : f 0 = (mNms f a (tAll tx ty td).2.2.2 (tAll tx ty td).2.2.1) 0 := (nms_012 hqa.1 hTN.1).2.2.symm
              have hpg2 : ∀ j, 0 ≤ j → j < f 1 → 0 ≤ pgs j ∧ pgs j ≤ 60 := hR.hpg hw
              have hbp2 := hw2.bp
              have hn2 := hw2.n
              refine z_vVv (As := [.ref (aD g 1)]) (rest := []) 198 K 12 (by decide) ((va_up_ne _ _ (by decide)).trans ((va_up_ne _ _ (by decide)).trans ((va_up_ne _ _ (by decide)).trans ((va_up_ne _ _ (by decide)).trans hf_91_12)))) rfl rfl (m_X7_follow l g _ (sBds f) vb vt vf lt lo (f 1) (f 2) (f 0) num pgs hC hN hP ((va_up_ne _ _ (by decide)).trans ((va_up_ne _ _ (by decide)).trans ((va_up_ne _ _ (by decide)).trans ((va_up_ne _ _ (by decide)).trans hf_91_12)))) ((va_up_ne _ _ (by decide)).trans ((va_up_ne _ _ (by decide)).trans ((va_up_ne _ _ (by decide)).trans ((va_up_ne _ _ (by decide)).trans hf_91_13)))) ((va_up_ne _ _ (by decide)).trans ((va_up_ne _ _ (by decide)).trans ((va_up_ne _ _ (by decide)).trans ((va_up_ne _ _ (by decide)).trans hf_91_14)))) ((va_up_ne _ _ (by decide)).trans ((va_up_ne _ _ (by decide)).trans ((va_up_ne _ _ (by decide)).trans ((va_up_ne _ _ (by decide)).trans hf_91_15)))) ((va_up_ne _ _ (by decide)).trans ((va_up_ne _ _ (by decide)).trans ((va_up_ne _ _ (by decide)).trans ((va_up_ne _ _ (by decide)).trans hf_91_16)))) ((va_up_ne _ _ (by decide)).trans ((va_up_ne _ _ (by decide)).trans ((va_up_ne _ _ (by decide)).trans ((va_up_ne _ _ (by decide)).trans hf_91_17)))) ((va_up_ne _ _ (by decide)).trans ((va_up_ne _ _ (by decide)).trans ((va_up_ne _ _ (by decide)).trans ((va_up_ne _ _ (by decide)).trans hf_91_1)))) ((va_up_ne _ _ (by decide)).trans ((va_up_ne _ _ (by decide)).trans ((va_up_ne _ _ (by decide)).trans ((va_up_ne _ _ (by decide)).trans hf_91_2)))) ((va_up_ne _ _ (by decide)).trans ((va_up_ne _ _ (by decide)).trans ((va_up_ne _ _ (by decide)).trans ((va_up_ne _ _ (by decide)).trans hf_91_3)))) ((va_up_ne _ _ (by decide)).trans ((va_up_ne _ _ (by decide)).trans ((va_up_ne _ _ (by decide)).trans ((va_up_ne _ _ (by decide)).trans hf_91_4)))) ((va_up_ne _ _ (by decide)).trans ((va_up_ne _ _ (by decide)).trans ((va_up_ne _ _ (by decide)).trans ((va_up_ne _ _ (by decide)).trans hf_91_5)))) ((va_up_ne _ _ (by decide)).trans (va_up_eq _ 6 _)) ((va_up_ne _ _ (by decide)).trans ((va_up_ne _ _ (by decide)).trans ((va_up_ne _ _ (by decide)).trans (va_up_eq _ 7 _)))) ((va_up_ne _ _ (by decide)).trans ((va_up_ne _ _ (by decide)).trans (va_up_eq _ 8 _))) (by omega) (by omega) hpg2 (hR2.hcc hw2) hVR.2.2.1 hVR.2.2.2 hR2.r1 hR2.r2 (hR2.hcp hw2)) (cwV 1 K.1.2.2.2.2 gX8_citeAll_X7_follow rfl rfl rfl (by decide +kernel) ⟨Nat.le_of_ble_eq_true rfl, Nat.le_of_ble_eq_true rfl⟩) rfl (Nat.le_of_ble_eq_true rfl) dX8_citeAll_195 rfl ⟨Nat.le_of_ble_eq_true rfl, Nat.le_of_ble_eq_true rfl⟩ rfl (fun C_10 hp_195 => ?_)
              obtain ⟨w13_11, w14_12, w15_13, w16_14, w17_15, hC_195, hvf_195, hcf_195, hl16_195, hl17_195⟩ := hp_195
              refine z_C hC_195 ?_
              refine z_iload_n 199 K dX8_citeAll_198 rfl rfl 2 rfl ?_
              exact z_iret K rfl dX8_citeAll_199 ⟨IW_mk2 hB2 hT2 ⟨_, _, _, _, ((va_up_ne _ _ (by decide)).trans ((va_up_ne _ _ (by decide)).trans ((va_up_ne _ _ (by decide)).trans ((va_up_ne _ _ (by decide)).trans ((va_up_ne _ _ (by decide)).trans ((va_up_ne _ _ (by decide)).trans (va_up_eq _ 23 _))))))), ((va_up_ne _ _ (by decide)).trans ((va_up_ne _ _ (by decide)).trans ((va_up_ne _ _ (by decide)).trans ((va_up_ne _ _ (by decide)).trans ((va_up_ne _ _ (by decide)).trans ((va_up_ne _ _ (by decide)).trans ((va_up_ne _ _ (by decide)).trans ((va_up_ne _ _ (by decide)).trans ((va_up_ne _ _ (by decide)).trans ((va_up_ne _ _ (by decide)).trans hf_91_24)))))))))), ((va_up_ne _ _ (by decide)).trans ((va_up_ne _ _ (by decide)).trans ((va_up_ne _ _ (by decide)).trans ((va_up_ne _ _ (by decide)).trans ((va_up_ne _ _ (by decide)).trans ((va_up_ne _ _ (by decide)).trans ((va_up_ne _ _ (by decide)).trans ((va_up_ne _ _ (by decide)).trans ((va_up_ne _ _ (by decide)).trans ((va_up_ne _ _ (by decide)).trans hf_91_25)))))))))), ((va_up_ne _ _ (by decide)).trans ((va_up_ne _ _ (by decide)).trans ((va_up_ne _ _ (by decide)).trans ((va_up_ne _ _ (by decide)).trans ((va_up_ne _ _ (by decide)).trans ((va_up_ne _ _ (by decide)).trans ((va_up_ne _ _ (by decide)).trans ((va_up_ne _ _ (by decide)).trans ((va_up_ne _ _ (by decide)).trans ((va_up_ne _ _ (by decide)).trans hf_91_26)))))))))), hAP.1⟩ hHn_91 (fun q hq => ((va_up_ne _ _ (by omega)).trans ((va_up_ne _ _ (by omega)).trans ((va_up_ne _ _ (by omega)).trans ((va_up_ne _ _ (by omega)).trans ((va_up_ne _ _ (by omega)).trans ((va_up_ne _ _ (by omega)).trans ((va_up_ne _ _ (by omega)).trans ((va_up_ne _ _ (by omega)).trans ((va_up_ne _ _ (by omega)).trans ((va_up_ne _ _ (by omega)).trans rfl))))))))))) ⟨((va_up_ne _ _ (by decide)).trans ((va_up_ne _ _ (by decide)).trans ((va_up_ne _ _ (by decide)).trans ((va_up_ne _ _ (by decide)).trans ((va_up_ne _ _ (by decide)).trans ((va_up_ne _ _ (by decide)).trans ((va_up_ne _ _ (by decide)).trans ((va_up_ne _ _ (by decide)).trans ((va_up_ne _ _ (by decide)).trans ((va_up_ne _ _ (by decide)).trans hf_91_1)))))))))), ((va_up_ne _ _ (by decide)).trans ((va_up_ne _ _ (by decide)).trans ((va_up_ne _ _ (by decide)).trans ((va_up_ne _ _ (by decide)).trans ((va_up_ne _ _ (by decide)).trans ((va_up_ne _ _ (by decide)).trans ((va_up_ne _ _ (by decide)).trans ((va_up_ne _ _ (by decide)).trans ((va_up_ne _ _ (by decide)).trans ((va_up_ne _ _ (by decide)).trans hf_91_2)))))))))), ((va_up_ne _ _ (by decide)).trans ((va_up_ne _ _ (by decide)).trans ((va_up_ne _ _ (by decide)).trans ((va_up_ne _ _ (by decide)).trans ((va_up_ne _ _ (by decide)).trans ((va_up_ne _ _ (by decide)).trans ((va_up_ne _ _ (by decide)).trans ((va_up_ne _ _ (by decide)).trans ((va_up_ne _ _ (by decide)).trans ((va_up_ne _ _ (by decide)).trans hf_91_3)))))))))), ((va_up_ne _ _ (by decide)).trans ((va_up_ne _ _ (by decide)).trans ((va_up_ne _ _ (by decide)).trans ((va_up_ne _ _ (by decide)).trans ((va_up_ne _ _ (by decide)).trans ((va_up_ne _ _ (by decide)).trans ((va_up_ne _ _ (by decide)).trans ((va_up_ne _ _ (by decide)).trans ((va_up_ne _ _ (by decide)).trans ((va_up_ne _ _ (by decide)).trans hf_91_4)))))))))), ((va_up_ne _ _ (by decide)).trans ((va_up_ne _ _ (by decide)).trans ((va_up_ne _ _ (by decide)).trans ((va_up_ne _ _ (by decide)).trans ((va_up_ne _ _ (by decide)).trans ((va_up_ne _ _ (by decide)).trans ((va_up_ne _ _ (by decide)).trans ((va_up_ne _ _ (by decide)).trans ((va_up_ne _ _ (by decide)).trans ((va_up_ne _ _ (by decide)).trans hf_91_5)))))))))), ((va_up_ne _ _ (by decide)).trans ((va_up_ne _ _ (by decide)).trans ((va_up_ne _ _ (by decide)).trans ((va_up_ne _ _ (by decide)).trans ((va_up_ne _ _ (by decide)).trans ((va_up_ne _ _ (by decide)).trans ((va_up_ne _ _ (by decide)).trans (va_up_eq _ 6 _)))))))), ((va_up_ne _ _ (by decide)).trans ((va_up_ne _ _ (by decide)).trans ((va_up_ne _ _ (by decide)).trans ((va_up_ne _ _ (by decide)).trans ((va_up_ne _ _ (by decide)).trans ((va_up_ne _ _ (by decide)).trans ((va_up_ne _ _ (by decide)).trans ((va_up_ne _ _ (by decide)).trans ((va_up_ne _ _ (by decide)).trans (va_up_eq _ 7 _)))))))))), ((va_up_ne _ _ (by decide)).trans ((va_up_ne _ _ (by decide)).trans ((va_up_ne _ _ (by decide)).trans ((va_up_ne _ _ (by decide)).trans ((va_up_ne _ _ (by decide)).trans ((va_up_ne _ _ (by decide)).trans ((va_up_ne _ _ (by decide)).trans ((va_up_ne _ _ (by decide)).trans (va_up_eq _ 8 _))))))))), ((va_up_ne _ _ (by decide)).trans ((va_up_ne _ _ (by decide)).trans ((va_up_ne _ _ (by decide)).trans ((va_up_ne _ _ (by decide)).trans ((va_up_ne _ _ (by decide)).trans ((va_up_ne _ _ (by decide)).trans ((va_up_ne _ _ (by decide)).trans ((va_up_ne _ _ (by decide)).trans ((va_up_ne _ _ (by decide)).trans ((va_up_ne _ _ (by decide)).trans hf_91_9)))))))))), ((va_up_ne _ _ (by decide)).trans ((va_up_ne _ _ (by decide)).trans ((va_up_ne _ _ (by decide)).trans ((va_up_ne _ _ (by decide)).trans ((va_up_ne _ _ (by decide)).trans ((va_up_ne _ _ (by decide)).trans ((va_up_ne _ _ (by decide)).trans ((va_up_ne _ _ (by decide)).trans ((va_up_ne _ _ (by decide)).trans ((va_up_ne _ _ (by decide)).trans hf_91_10)))))))))), ((va_up_ne _ _ (by decide)).trans ((va_up_ne _ _ (by decide)).trans ((va_up_ne _ _ (by decide)).trans ((va_up_ne _ _ (by decide)).trans ((va_up_ne _ _ (by decide)).trans ((va_up_ne _ _ (by decide)).trans ((va_up_ne _ _ (by decide)).trans ((va_up_ne _ _ (by decide)).trans ((va_up_ne _ _ (by decide)).trans ((va_up_ne _ _ (by decide)).trans hf_91_11))))))))))⟩ e1 e2 e3 hR2 hw2 ⟨((va_up_ne _ _ (by decide)).trans ((va_up_ne _ _ (by decide)).trans (va_up_eq _ 12 _))), ((va_up_ne _ _ (by decide)).trans ((va_up_ne _ _ (by decide)).trans ((va_up_ne _ _ (by decide)).trans ((va_up_ne _ _ (by decide)).trans ((va_up_ne _ _ (by decide)).trans (va_up_eq _ 13 _)))))), ((va_up_ne _ _ (by decide)).trans ((va_up_ne _ _ (by decide)).trans ((va_up_ne _ _ (by decide)).trans ((va_up_ne _ _ (by decide)).trans (va_up_eq _ 14 _))))), ((va_up_ne _ _ (by decide)).trans ((va_up_ne _ _ (by decide)).trans ((va_up_ne _ _ (by decide)).trans (va_up_eq _ 15 _)))), ((va_up_ne _ _ (by decide)).trans (va_up_eq _ 16 _)), (va_up_eq _ 17 _)⟩ rfl hvf_195 hcf_195 hl16_195 hl17_195, fun q hq => ((((va_up_ne _ _ (by omega)).trans ((va_up_ne _ _ (by omega)).trans ((va_up_ne _ _ (by omega)).trans ((va_up_ne _ _ (by omega)).trans ((va_up_ne _ _ (by omega)).trans ((va_up_ne _ _ (by omega)).trans ((va_up_ne _ _ (by omega)).trans ((va_up_ne _ _ (by omega)).trans ((va_up_ne _ _ (by omega)).trans ((va_up_ne _ _ (by omega)).trans rfl))))))))))).trans (hsm_91 q (by omega))).trans (hS9 q hq), rfl⟩
            · skip
              refine z_aload_n 134 K dX8_citeAll_133 rfl rfl 0 rfl ?_
              refine z_get 137 K hin_X8_citeAll_X8 0 (by decide) ((va_up_ne _ _ (by decide)).trans ((va_up_ne _ _ (by decide)).trans ((va_up_ne _ _ (by decide)).trans hf_91_0))) rfl 0 (by decide) (by decide +kernel : Cond.fieldLink RX8 12 "BriefBuilder" "state" "LBriefBuilder$State;" ∈ wsX8_citeAll) (fun _ h9 => h9) rfl dX8_citeAll_134 rfl ?_
              refine z_get 140 K hin_X8_citeAll_X4 1 (by decide) ((va_up_ne _ _ (by decide)).trans ((va_up_ne _ _ (by decide)).trans ((va_up_ne _ _ (by decide)).trans hf_91_1))) rfl 1 (by decide) (by decide +kernel : Cond.fieldLink RX8 111 "BriefBuilder$State" "citations" "LBriefBuilder$Citations;" ∈ wsX8_citeAll) (fun _ h9 => h9) rfl dX8_citeAll_137 rfl ?_
              refine z_iload_n 141 K dX8_citeAll_140 rfl rfl 1 rfl ?_
              refine z_aload_n 142 K dX8_citeAll_141 rfl rfl 0 rfl ?_
              refine z_get 145 K hin_X8_citeAll_X8 0 (by decide) ((va_up_ne _ _ (by decide)).trans ((va_up_ne _ _ (by decide)).trans ((va_up_ne _ _ (by decide)).trans hf_91_0))) rfl 0 (by decide) (by decide +kernel : Cond.fieldLink RX8 12 "BriefBuilder" "state" "LBriefBuilder$State;" ∈ wsX8_citeAll) (fun _ h9 => h9) rfl dX8_citeAll_142 rfl ?_
              refine z_get 148 K hin_X8_citeAll_X4 1 (by decide) ((va_up_ne _ _ (by decide)).trans ((va_up_ne _ _ (by decide)).trans ((va_up_ne _ _ (by decide)).trans hf_91_1))) rfl 0 (by decide) (by decide +kernel : Cond.fieldLink RX8 48 "BriefBuilder$State" "exhibits" "LBriefBuilder$Exhibits;" ∈ wsX8_citeAll) (fun _ h9 => h9) rfl dX8_citeAll_145 rfl ?_
              refine z_get 151 K hin_X8_citeAll_X1 2 (by decide) ((va_up_ne _ _ (by decide)).trans ((va_up_ne _ _ (by decide)).trans ((va_up_ne _ _ (by decide)).trans hf_91_2))) rfl 0 (by decide) (by decide +kernel : Cond.fieldLink RX8 78 "BriefBuilder$Exhibits" "numbers" "[I" ∈ wsX8_citeAll) (fun _ h9 => h9) rfl dX8_citeAll_148 rfl ?_
              refine z_aload_n 152 K dX8_citeAll_151 rfl rfl 0 rfl ?_
              refine z_get 155 K hin_X8_citeAll_X8 0 (by decide) ((va_up_ne _ _ (by decide)).trans ((va_up_ne _ _ (by decide)).trans ((va_up_ne _ _ (by decide)).trans hf_91_0))) rfl 4 (by decide) (by decide +kernel : Cond.fieldLink RX8 40 "BriefBuilder" "text" "LBriefBuilder$Text;" ∈ wsX8_citeAll) (fun _ h9 => h9) rfl dX8_citeAll_152 rfl ?_
              refine z_get 158 K hin_X8_citeAll_X5 23 (by decide) ((va_up_ne _ _ (by decide)).trans ((va_up_ne _ _ (by decide)).trans ((va_up_ne _ _ (by decide)).trans hf_91_23))) rfl 2 (by decide) (by decide +kernel : Cond.fieldLink RX8 199 "BriefBuilder$Text" "places" "[I" ∈ wsX8_citeAll) (fun _ h9 => h9) rfl dX8_citeAll_155 rfl ?_
              refine z_iload_n 159 K dX8_citeAll_158 rfl rfl 3 rfl ?_
              refine z_iald (f := ((aAll tx ty pl px).2.2.2.1)) 160 K 25 (by decide) ((va_up_ne _ _ (by decide)).trans ((va_up_ne _ _ (by decide)).trans ((va_up_ne _ _ (by decide)).trans hf_91_25))) (by omega) (by omega) (by decide) dX8_citeAll_159 rfl ?_
              refine z_top ((tAll tx ty td).2.2.2 (2 * i9)) (hcv.2 i9 (by omega) (by omega)).1 ?_
              have hqi := hqt i9 (by omega) (by omega)
              have hqo := hTO i9 (by omega) (by omega)
              refine z_iald (f := num) 161 K 3 (by decide) ((va_up_ne _ _ (by decide)).trans ((va_up_ne _ _ (by decide)).trans ((va_up_ne _ _ (by decide)).trans hf_91_3))) (by omega) (by omega) (by decide) dX8_citeAll_160 rfl ?_
              refine z_aload_n 162 K dX8_citeAll_161 rfl rfl 0 rfl ?_
              refine z_get 165 K hin_X8_citeAll_X8 0 (by decide) ((va_up_ne _ _ (by decide)).trans ((va_up_ne _ _ (by decide)).trans ((va_up_ne _ _ (by decide)).trans hf_91_0))) rfl 4 (by decide) (by decide +kernel : Cond.fieldLink RX8 40 "BriefBuilder" "text" "LBriefBuilder$Text;" ∈ wsX8_citeAll) (fun _ h9 => h9) rfl dX8_citeAll_162 rfl ?_
              refine z_get 168 K hin_X8_citeAll_X5 23 (by decide) ((va_up_ne _ _ (by decide)).trans ((va_up_ne _ _ (by decide)).trans ((va_up_ne _ _ (by decide)).trans hf_91_23))) rfl 3 (by decide) (by decide +kernel : Cond.fieldLink RX8 204 "BriefBuilder$Text" "pages" "[I" ∈ wsX8_citeAll) (fun _ h9 => h9) rfl dX8_citeAll_165 rfl ?_
              refine z_iload_n 169 K dX8_citeAll_168 rfl rfl 3 rfl ?_
              refine z_iald (f := ((aAll tx ty pl px).2.2.2.2)) 170 K 26 (by decide) ((va_up_ne _ _ (by decide)).trans ((va_up_ne _ _ (by decide)).trans ((va_up_ne _ _ (by decide)).trans hf_91_26))) (by omega) (by omega) (by decide) dX8_citeAll_169 rfl ?_
              refine z_top ((tAll tx ty td).2.2.2 (2 * i9 + 1)) (hcv.2 i9 (by omega) (by omega)).2 ?_
              have hcu := (hRi.pa a hqa.1 hqa.2).1
              rw [mNms_n hki.1] at hcu
              refine z_vVv (As := [.int (iZ a), .int (iZ (num ((tAll tx ty td).2.2.2 (2 * i9)))), .int (iZ ((tAll tx ty td).2.2.2 (2 * i9 + 1)))]) (rest := []) 173 K 5 (by decide) ((va_up_ne _ _ (by decide)).trans ((va_up_ne _ _ (by decide)).trans ((va_up_ne _ _ (by decide)).trans hf_91_5))) rfl rfl (m_X0_add l g _ a (num ((tAll tx ty td).2.2.2 (2 * i9))) ((tAll tx ty td).2.2.2 (2 * i9 + 1)) hC hN hP ((va_up_ne _ _ (by decide)).trans ((va_up_ne _ _ (by decide)).trans ((va_up_ne _ _ (by decide)).trans hf_91_5))) (va_up_eq _ 6 _) ((va_up_ne _ _ (by decide)).trans ((va_up_ne _ _ (by decide)).trans (va_up_eq _ 7 _))) ((va_up_ne _ _ (by decide)).trans (va_up_eq _ 8 _)) (by omega) (by omega)) (cwV 3 K.1.2.2.2.2 gX8_citeAll_X0_add rfl rfl rfl (by decide +kernel) ⟨Nat.le_of_ble_eq_true rfl, Nat.le_of_ble_eq_true rfl⟩) rfl (Nat.le_of_ble_eq_true rfl) dX8_citeAll_170 rfl ⟨Nat.le_of_ble_eq_true rfl, Nat.le_of_ble_eq_true rfl⟩ rfl (fun C_17 hp_170 => ?_)
              refine z_C hp_170 ?_
              refine z_C (congrArg (fun c9 => va_up (va_up c9 8 (eI g 72 (zu hP (6 * a + hC a) ((tAll tx ty td).2.2.2 (2 * i9 + 1))))) 6 (eI g 12 (zu hC a (hC a + 1)))) (va_uu2 (q := 7) (q1 := 8) (q2 := 6) (by decide) (by decide))) ?_
              refine z_C (congrArg (fun c9 => va_up c9 6 (eI g 12 (zu hC a (hC a + 1)))) (va_uu2 (q := 8) (q1 := 6) (q2 := 7) (by decide) (by decide))) ?_
              refine z_C (va_uu2 (by decide) (by decide)) ?_
              have hWF2 : WF (mName (mNms f a (tAll tx ty td).2.2.2 i9) a ((tAll tx ty td).2.2.2 (2 * i9)) ((tAll tx ty td).2.2.2 (2 * i9 + 1))) cap := WF_name hWi (by omega) hqa (by rw [(nms_012 hqa.1 hki.1).1]; omega) (by omega) (by rw [mNms_n hki.1]; omega)
              have hRS2 := RS_name (p := (tAll tx ty td).2.2.2 (2 * i9)) (y := (tAll tx ty td).2.2.2 (2 * i9 + 1)) hRi hWi hqa (by rw [(nms_012 hqa.1 hki.1).1]; omega) (by rw [mNms_n hki.1]; omega)
              rw [← mNms_1 hki.1] at hWF2 hRS2
              refine z_iinc (lv' := [(3, .int (iZ (i9 + 1))), (0, .ref (aD g 0)), (1, .int (iZ a)), (2, .int (iZ (f (32 * a + 65))))]) 176 K dX8_citeAll_173 rfl (i9 + 1) rfl 3 rfl (by decide) rfl ?_
              refine z_goto (tgt := 122) K dX8_citeAll_176 (by decide) ?_
              refine z_sub [1, 2, 3, 0] rfl ?_
              exact ih_122 (zu hC a (hC a + 1)) (zu hN (6 * a + hC a) (num ((tAll tx ty td).2.2.2 (2 * i9)))) (zu hP (6 * a + hC a) ((tAll tx ty td).2.2.2 (2 * i9 + 1))) (i9 + 1) (by omega) hRS2 hWF2 (by omega)
        refine z_sub [2, 3, 1, 0] rfl ?_
        refine z_C (va_us ((va_up_ne _ _ (by decide)).trans hf_91_7)).symm ?_
        refine z_C (va_us ((va_up_ne _ _ (by decide)).trans ((va_up_ne _ _ (by decide)).trans hf_91_8))).symm ?_
        refine z_C (va_ur1 (by decide)) ?_
        refine z_C (va_ur1 (by decide)) ?_
        refine z_C (va_ur2 (by decide) (by decide)) ?_
        exact loop_122 (Int.toNat ((tAll tx ty td).2.2.1 - 0) + 1) (zu cc a 0) cn cp 0 (by omega) (by rw [mNms_0]; exact RS_zero hR hw hqa) (by rw [mNms_0]; exact WF_zero hw hqa) (by omega)
      · skip
        refine z_aload_n 46 K dX8_citeAll_45 rfl rfl 0 rfl ?_
        refine z_get 49 K hin_X8_citeAll_X8 0 (by decide) ((va_up_ne _ _ (by decide)).trans ((va_up_ne _ _ (by decide)).trans ((va_up_ne _ _ (by decide)).trans hMa))) rfl 4 (by decide) (by decide +kernel : Cond.fieldLink RX8 40 "BriefBuilder" "text" "LBriefBuilder$Text;" ∈ wsX8_citeAll) (fun _ h9 => h9) rfl dX8_citeAll_46 rfl ?_
        refine z_get 52 K hin_X8_citeAll_X5 23 (by decide) (va_up_eq _ 23 _) rfl 2 (by decide) (by decide +kernel : Cond.fieldLink RX8 199 "BriefBuilder$Text" "places" "[I" ∈ wsX8_citeAll) (fun _ h9 => h9) rfl dX8_citeAll_49 rfl ?_
        refine z_iload_n 53 K dX8_citeAll_52 rfl rfl 2 rfl ?_
        refine z_iald (f := ((aAll tx ty pl px).2.2.2.1)) 54 K 25 (by decide) ((va_up_ne _ _ (by decide)).trans ((va_up_ne _ _ (by decide)).trans (va_up_eq _ 25 _))) (by omega) (by omega) (by decide) dX8_citeAll_53 rfl ?_
        refine z_top ((tAll tx ty td).2.2.2 (2 * j9)) (hcv.2 j9 (by omega) (by omega)).1 ?_
        have hqj := hqt j9 (by omega) (by omega)
        refine z_aload_n 55 K dX8_citeAll_54 rfl rfl 0 rfl ?_
        refine z_get 58 K hin_X8_citeAll_X8 0 (by decide) ((va_up_ne _ _ (by decide)).trans ((va_up_ne _ _ (by decide)).trans ((va_up_ne _ _ (by decide)).trans hMa))) rfl 0 (by decide) (by decide +kernel : Cond.fieldLink RX8 12 "BriefBuilder" "state" "LBriefBuilder$State;" ∈ wsX8_citeAll) (fun _ h9 => h9) rfl dX8_citeAll_55 rfl ?_
        refine z_get 61 K hin_X8_citeAll_X4 1 (by decide) ((va_up_ne _ _ (by decide)).trans ((va_up_ne _ _ (by decide)).trans ((va_up_ne _ _ (by decide)).trans hSt))) rfl 0 (by decide) (by decide +kernel : Cond.fieldLink RX8 48 "BriefBuilder$State" "exhibits" "LBriefBuilder$Exhibits;" ∈ wsX8_citeAll) (fun _ h9 => h9) rfl dX8_citeAll_58 rfl ?_
        refine z_get 64 K hin_X8_citeAll_X1 2 (by decide) ((va_up_ne _ _ (by decide)).trans ((va_up_ne _ _ (by decide)).trans ((va_up_ne _ _ (by decide)).trans hEx))) rfl 2 (by decide) (by decide +kernel : Cond.fieldLink RX8 95 "BriefBuilder$Exhibits" "count" "I" ∈ wsX8_citeAll) (fun _ h9 => h9) rfl dX8_citeAll_61 rfl ?_
        refine z_icmp_lt (tgt := 77) 67 K dX8_citeAll_64 rfl (by decide) (by omega) (by omega) (fun c_64 => ?_) (fun c_64 => ?_)
        · skip
          refine z_iinc (lv' := [(2, .int (iZ (j9 + 1))), (0, .ref (aD g 0)), (1, .int (iZ a))]) 80 K dX8_citeAll_77 rfl (j9 + 1) rfl 2 rfl (by decide) rfl ?_
          refine z_goto (tgt := 34) K dX8_citeAll_80 (by decide) ?_
          refine z_sub [1, 2, 0] rfl ?_
          exact ih_34 (j9 + 1) (by omega) (by omega)
        · skip
          exact absurd c_64 (by omega)
  refine z_sub [1, 2, 0] rfl ?_
  exact loop_34 (Int.toNat (7 - 0) + 1) 0 (by omega) (by omega)
end ZIT4
