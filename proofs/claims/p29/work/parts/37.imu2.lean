/-! the class: further changing calls -/
section ZIM2
set_option maxHeartbeats 4000000 in
set_option maxRecDepth 100000 in
theorem x_X8_print (l : Launch) (g : zG) (C : Nat → va_E) (a : Int) (f : Int → Int) (past : Int → Int) (tx : Int → Int) (k : Int) (ty : Int) (cap : Int) (hI : IW g C f k past ty tx) (hP : PW cap f k past ty tx) (h_a : -2147483648 ≤ a ∧ a < 2147483648) (hk9 : kPar a ≠ 0) (hlt : l.stackTraces = false) : vx_Met l yX8_print wsX8_print ({ frames := 7, cells := 1, slots := 6, locals := 102 } : Room) (zPre g C [.ref (aD g 0), .int (iZ a)]) (zQi g (fun z C' => False)) (zX g (fun E C' => IW g C' f k past ty tx ∧ zSame C C' ∧ ((E = "java/lang/IndexOutOfBoundsException" ∧ kPar a = 1)))) 1 6 (zA g) := by
  refine z_enterX RX8 rfl (by decide) rfl (Nat.le_of_ble_eq_true rfl) ?_
  intro p e s m args below meth c K harg hne
  refine z_sub (lv' := [(0, .ref (aD g 0)), (1, .int (iZ a))]) [0, 1] rfl ?_
  have hI0 := hI
  obtain ⟨hB, hL, hV, hT, hH, hX⟩ := hI
  obtain ⟨hMa, hSp⟩ := id hB
  obtain ⟨num, pgs, cc, cn, cp, pn, pm, ⟨hSt, hEx, hNum, hPgs, hCi, hCc, hCn, hCp, hPr, hPc, hPm⟩, hR⟩ := id hL
  obtain ⟨vb, vt, vf, lt, lo, ⟨hVw, hVb, hVt, hVf, hLe, hLo⟩, hVR⟩ := id hV
  obtain ⟨tc, np, tp, hTr, hTn, hTp, hnp⟩ := id hT
  obtain ⟨cur, stp, pl, px, hTx, hXc, hXl, hXp, hpx⟩ := id hX
  obtain ⟨old, hHi, hHs, hho, -, -⟩ := id hH
  obtain ⟨hw, hk, hpst, hty, htxr, hrtx, hrp, hcap⟩ := id hP
  have hn := hw.n
  have hnx := hw.nx
  have hbp := hw.bp
  refine z_iload_n 1 K dX8_print_0 rfl rfl 1 rfl ?_
  refine z_xSv (As := [.int (iZ a)]) (rest := []) 4 K (m_X8_checkParagraph l g _ a (by omega) hlt) (va_cwS 1 K.1.2.2.2.2 gX8_print_X8_checkParagraph rfl rfl rfl (by decide +kernel) ⟨Nat.le_of_ble_eq_true rfl, Nat.le_of_ble_eq_true rfl⟩) rfl (Nat.le_of_ble_eq_true rfl) dX8_print_1 rfl ⟨Nat.le_of_ble_eq_true rfl, Nat.le_of_ble_eq_true rfl⟩ rfl (fun E9 C9 hx9 => ?_) (fun C_2 hp_1 => ?_)
  · obtain ⟨hE9, rfl, hx9⟩ := hx9
    exact z_out hne K (Nat.le_of_ble_eq_true rfl) (Nat.le_of_ble_eq_true rfl) ⟨hI0, zSame_rf _, ⟨hE9, (by unfold kPar; repeat (first | omega | split))⟩⟩
  obtain ⟨hC_1, hc_1⟩ := hp_1
  refine z_C hC_1 ?_
  exact absurd (by unfold kPar; repeat (first | omega | split)) hk9
set_option maxRecDepth 20000 in
theorem hin_X8_print_X0 : ∀ w ∈ wsX00, w ∈ wsX8_print := by decide +kernel
set_option maxRecDepth 20000 in
theorem hin_X8_print_X3 : ∀ w ∈ wsX30, w ∈ wsX8_print := by decide +kernel
set_option maxRecDepth 20000 in
theorem hin_X8_print_X4 : ∀ w ∈ wsX40, w ∈ wsX8_print := by decide +kernel
set_option maxRecDepth 20000 in
theorem hin_X8_print_X7 : ∀ w ∈ wsX70, w ∈ wsX8_print := by decide +kernel
set_option maxRecDepth 20000 in
theorem hin_X8_print_X8 : ∀ w ∈ wsX80, w ∈ wsX8_print := by decide +kernel
set_option maxHeartbeats 4000000 in
set_option maxRecDepth 100000 in
theorem a_X8_print (l : Launch) (g : zG) (C : Nat → va_E) (a : Int) (f : Int → Int) (past : Int → Int) (tx : Int → Int) (k : Int) (ty : Int) (cap : Int) (hI : IW g C f k past ty tx) (hP : PW cap f k past ty tx) (h_a : -2147483648 ≤ a ∧ a < 2147483648) (hk9 : kPar a = 0) : Met l yX8_print wsX8_print ({ frames := 4, cells := 0, slots := 0, locals := 103 } : Room) (zPre g C [.ref (aD g 0), .int (iZ a)]) (zQi g (fun z C' => IW g C' (mPrint f a) (mKp k + 1) (mSav f past k) ty tx ∧ zSame C C' ∧ z = b2i (sStale f a))) 0 0 (zA g) := by
  refine z_enter RX8 rfl (by decide) rfl (Nat.le_of_ble_eq_true rfl) ?_
  intro p e s m args below meth c K harg
  refine z_sub (lv' := [(0, .ref (aD g 0)), (1, .int (iZ a))]) [0, 1] rfl ?_
  have hI0 := hI
  obtain ⟨hB, hL, hV, hT, hH, hX⟩ := hI
  obtain ⟨hMa, hSp⟩ := id hB
  obtain ⟨num, pgs, cc, cn, cp, pn, pm, ⟨hSt, hEx, hNum, hPgs, hCi, hCc, hCn, hCp, hPr, hPc, hPm⟩, hR⟩ := id hL
  obtain ⟨vb, vt, vf, lt, lo, ⟨hVw, hVb, hVt, hVf, hLe, hLo⟩, hVR⟩ := id hV
  obtain ⟨tc, np, tp, hTr, hTn, hTp, hnp⟩ := id hT
  obtain ⟨cur, stp, pl, px, hTx, hXc, hXl, hXp, hpx⟩ := id hX
  obtain ⟨old, hHi, hHs, hho, -, -⟩ := id hH
  obtain ⟨hw, hk, hpst, hty, htxr, hrtx, hrp, hcap⟩ := id hP
  have hn := hw.n
  have hnx := hw.nx
  have hbp := hw.bp
  have hq : 0 ≤ a ∧ a < 12 := by
    unfold kPar at hk9
    repeat (first | omega | split at hk9)
  have hpa := hw.pa a (by omega) (by omega)
  have hca := hR.pa a (by omega) (by omega)
  refine z_iload_n 1 K dX8_print_0 rfl rfl 1 rfl ?_
  refine z_vSv (As := [.int (iZ a)]) (rest := []) 4 K (n_X8_checkParagraph l g _ a (by omega) (by omega)) (va_cwS 1 K.1.2.2.2.2 gX8_print_X8_checkParagraph rfl rfl rfl (by decide +kernel) ⟨Nat.le_of_ble_eq_true rfl, Nat.le_of_ble_eq_true rfl⟩) rfl (Nat.le_of_ble_eq_true rfl) dX8_print_1 rfl ⟨Nat.le_of_ble_eq_true rfl, Nat.le_of_ble_eq_true rfl⟩ rfl (fun C_2 hp_1 => ?_)
  refine z_C hp_1 ?_
  refine z_aload_n 5 K dX8_print_4 rfl rfl 0 rfl ?_
  refine z_get 8 K hin_X8_print_X8 0 (by decide) hMa rfl 3 (by decide) (by decide +kernel : Cond.fieldLink RX8 33 "BriefBuilder" "history" "LBriefBuilder$History;" ∈ wsX8_print) (fun _ h9 => h9) rfl dX8_print_5 rfl ?_
  refine z_aload_n 9 K dX8_print_8 rfl rfl 0 rfl ?_
  refine z_get 12 K hin_X8_print_X8 0 (by decide) hMa rfl 0 (by decide) (by decide +kernel : Cond.fieldLink RX8 12 "BriefBuilder" "state" "LBriefBuilder$State;" ∈ wsX8_print) (fun _ h9 => h9) rfl dX8_print_9 rfl ?_
  refine z_vVv (As := [.ref (aD g 1)]) (rest := []) 15 K 21 (by decide) hHi rfl rfl (s_X2_save l g _ f past k cap hH hL hk hw hpst) (cwV 1 K.1.2.2.2.2 gX8_print_X2_save rfl rfl rfl (by decide +kernel) ⟨Nat.le_of_ble_eq_true rfl, Nat.le_of_ble_eq_true rfl⟩) rfl (Nat.le_of_ble_eq_true rfl) dX8_print_12 rfl ⟨Nat.le_of_ble_eq_true rfl, Nat.le_of_ble_eq_true rfl⟩ rfl (fun C_4 hp_12 => ?_)
  obtain ⟨hHn_12, hsm_12⟩ := hp_12
  have hf_12_0 : C_4 0 = .inr (8, [.ref (aD g 1), .ref (aD g 12), .ref (aD g 18), .ref (aD g 21), .ref (aD g 23), .ref (aD g 27)]) := (hsm_12 0 (by omega)).trans hMa
  have hf_12_27 : C_4 27 = eI g 30 (fun k => k) := (hsm_12 27 (by omega)).trans hSp
  have hf_12_1 : C_4 1 = .inr (4, [.ref (aD g 2), .ref (aD g 5), .ref (aD g 9)]) := (hsm_12 1 (by omega)).trans hSt
  have hf_12_2 : C_4 2 = .inr (1, [.ref (aD g 3), .ref (aD g 4), .int (iZ (f 1)), .int (iZ (f 2)), .int (iZ (f 0))]) := (hsm_12 2 (by omega)).trans hEx
  have hf_12_3 : C_4 3 = eI g 30 num := (hsm_12 3 (by omega)).trans hNum
  have hf_12_4 : C_4 4 = eI g 30 pgs := (hsm_12 4 (by omega)).trans hPgs
  have hf_12_5 : C_4 5 = .inr (0, [.ref (aD g 6), .ref (aD g 7), .ref (aD g 8)]) := (hsm_12 5 (by omega)).trans hCi
  have hf_12_6 : C_4 6 = eI g 12 cc := (hsm_12 6 (by omega)).trans hCc
  have hf_12_7 : C_4 7 = eI g 72 cn := (hsm_12 7 (by omega)).trans hCn
  have hf_12_8 : C_4 8 = eI g 72 cp := (hsm_12 8 (by omega)).trans hCp
  have hf_12_9 : C_4 9 = .inr (3, [.ref (aD g 10), .ref (aD g 11)]) := (hsm_12 9 (by omega)).trans hPr
  have hf_12_10 : C_4 10 = eI g 12 pn := (hsm_12 10 (by omega)).trans hPc
  have hf_12_11 : C_4 11 = eI g 72 pm := (hsm_12 11 (by omega)).trans hPm
  have hf_12_12 : C_4 12 = .inr (7, [.ref (aD g 13), .ref (aD g 14), .ref (aD g 15), .ref (aD g 16), .ref (aD g 17), .int (iZ (sBds f))]) := (hsm_12 12 (by omega)).trans hVw
  have hf_12_13 : C_4 13 = eI g 30 vb := (hsm_12 13 (by omega)).trans hVb
  have hf_12_14 : C_4 14 = eI g 30 vt := (hsm_12 14 (by omega)).trans hVt
  have hf_12_15 : C_4 15 = eI g 30 vf := (hsm_12 15 (by omega)).trans hVf
  have hf_12_16 : C_4 16 = eI g 72 lt := (hsm_12 16 (by omega)).trans hLe
  have hf_12_17 : C_4 17 = eZ g 72 lo := (hsm_12 17 (by omega)).trans hLo
  have hf_12_18 : C_4 18 = .inr (6, [.ref (aD g 19), .ref (aD g 20), .int (iZ tc)]) := (hsm_12 18 (by omega)).trans hTr
  have hf_12_19 : C_4 19 = eI g 30 np := (hsm_12 19 (by omega)).trans hTn
  have hf_12_20 : C_4 20 = eI g 31 tp := (hsm_12 20 (by omega)).trans hTp
  have hf_12_22 : C_4 22 = eS g 6 (fun k => some (aD g (28 + 11 * k))) := (hsm_12 22 (by omega)).trans hHs
  have hf_12_23 : C_4 23 = .inr (5, [.ref (aD g 24), .int (iZ ty), .ref (aD g 25), .ref (aD g 26), .int (iZ cur), .int (iZ stp)]) := (hsm_12 23 (by omega)).trans hTx
  have hf_12_24 : C_4 24 = eI g 60 tx := (hsm_12 24 (by omega)).trans hXc
  have hf_12_25 : C_4 25 = eI g 6 pl := (hsm_12 25 (by omega)).trans hXl
  have hf_12_26 : C_4 26 = eI g 6 px := (hsm_12 26 (by omega)).trans hXp
  have hB2 := wB_cong hB (fun q hq => hsm_12 q (by omega))
  have hT2 := wT_cong hT (fun q hq => hsm_12 q (by omega))
  have hX2 := wX_cong hX (fun q hq => hsm_12 q (by omega))
  refine z_aload_n 16 K dX8_print_15 rfl rfl 0 rfl ?_
  refine z_iload_n 17 K dX8_print_16 rfl rfl 1 rfl ?_
  refine z_aload_n 18 K dX8_print_17 rfl rfl 0 rfl ?_
  refine z_get 21 K hin_X8_print_X8 0 (by decide) hf_12_0 rfl 5 (by decide) (by decide +kernel : Cond.fieldLink RX8 44 "BriefBuilder" "samePlaces" "[I" ∈ wsX8_print) (fun _ h9 => h9) rfl dX8_print_18 rfl ?_
  refine z_vVi (As := [.int (iZ a), .ref (aD g 27)]) (rest := []) 24 K 0 (by decide) hf_12_0 rfl rfl (m_X8_isStale l g _ a 27 cc cp pn pm (sBds f) lt lo (fun k => k) hf_12_0 hf_12_1 hf_12_5 hf_12_6 hf_12_8 hf_12_9 hf_12_10 hf_12_11 hf_12_12 hf_12_16 hf_12_17 (by decide) hf_12_27 (by omega) (hR.hcc hw) hVR.2.2.1 hVR.2.2.2 (hR.hcp hw) (fun j j0 j1 => (⟨by omega, by omega⟩ : -1 ≤ j ∧ j ≤ 30)) hR.r3 hR.r4) (cwV 2 K.1.2.2.2.2 gX8_print_X8_isStale rfl rfl rfl (by decide +kernel) ⟨Nat.le_of_ble_eq_true rfl, Nat.le_of_ble_eq_true rfl⟩) rfl (Nat.le_of_ble_eq_true rfl) dX8_print_21 rfl ⟨Nat.le_of_ble_eq_true rfl, Nat.le_of_ble_eq_true rfl⟩ rfl (fun z_5 C_6 hp_21 => ?_)
  refine z_C hp_21.1 ?_
  refine z_top (b2i (iSt (fun k => k) lt lo cc cp pn pm a)) hp_21.2 ?_
  refine z_bool01 27 28 31 32 K (b2i_rng _) dX8_print_24 dX8_print_27 dX8_print_28 dX8_print_31 rfl rfl (by decide) (by decide) rfl ?_
  refine z_istore_n (lv' := [(2, .int (iZ (b2i (iSt (fun k => k) lt lo cc cp pn pm a)))), (0, .ref (aD g 0)), (1, .int (iZ a))]) 33 K dX8_print_32 rfl rfl (by decide) rfl ?_
  refine z_aload_n 34 K dX8_print_33 rfl rfl 1 rfl ?_
  refine z_get 37 K hin_X8_print_X8 0 (by decide) hf_12_0 rfl 0 (by decide) (by decide +kernel : Cond.fieldLink RX8 12 "BriefBuilder" "state" "LBriefBuilder$State;" ∈ wsX8_print) (fun _ h9 => h9) rfl dX8_print_34 rfl ?_
  refine z_get 40 K hin_X8_print_X4 1 (by decide) hf_12_1 rfl 1 (by decide) (by decide +kernel : Cond.fieldLink RX8 111 "BriefBuilder$State" "citations" "LBriefBuilder$Citations;" ∈ wsX8_print) (fun _ h9 => h9) rfl dX8_print_37 rfl ?_
  refine z_get 43 K hin_X8_print_X0 5 (by decide) hf_12_5 rfl 0 (by decide) (by decide +kernel : Cond.fieldLink RX8 131 "BriefBuilder$Citations" "counts" "[I" ∈ wsX8_print) (fun _ h9 => h9) rfl dX8_print_40 rfl ?_
  refine z_iload_n 44 K dX8_print_43 rfl rfl 2 rfl ?_
  refine z_iald (f := cc) 45 K 6 (by decide) hf_12_6 (by omega) (by omega) (by decide) dX8_print_44 rfl ?_
  refine z_top (cc a) rfl ?_
  refine z_istore_n (lv' := [(3, .int (iZ (cc a))), (2, .int (iZ (b2i (iSt (fun k => k) lt lo cc cp pn pm a)))), (0, .ref (aD g 0)), (1, .int (iZ a))]) 46 K dX8_print_45 rfl rfl (by decide) rfl ?_
  refine z_aload_n 47 K dX8_print_46 rfl rfl 2 rfl ?_
  refine z_get 50 K hin_X8_print_X8 0 (by decide) hf_12_0 rfl 0 (by decide) (by decide +kernel : Cond.fieldLink RX8 12 "BriefBuilder" "state" "LBriefBuilder$State;" ∈ wsX8_print) (fun _ h9 => h9) rfl dX8_print_47 rfl ?_
  refine z_get 53 K hin_X8_print_X4 1 (by decide) hf_12_1 rfl 2 (by decide) (by decide +kernel : Cond.fieldLink RX8 151 "BriefBuilder$State" "prints" "LBriefBuilder$Prints;" ∈ wsX8_print) (fun _ h9 => h9) rfl dX8_print_50 rfl ?_
  refine z_get 56 K hin_X8_print_X3 9 (by decide) hf_12_9 rfl 0 (by decide) (by decide +kernel : Cond.fieldLink RX8 155 "BriefBuilder$Prints" "counts" "[I" ∈ wsX8_print) (fun _ h9 => h9) rfl dX8_print_53 rfl ?_
  refine z_iload_n 57 K dX8_print_56 rfl rfl 3 rfl ?_
  refine z_iload_n 58 K dX8_print_57 rfl rfl 0 rfl ?_
  refine z_iast (f := pn) 59 K 10 (by decide) hf_12_10 (by omega) (by omega) (by decide) dX8_print_58 rfl ?_
  refine z_iconst 60 K dX8_print_59 rfl ?_
  refine z_istore (lv' := [(4, .int (iZ 0)), (3, .int (iZ (cc a))), (2, .int (iZ (b2i (iSt (fun k => k) lt lo cc cp pn pm a)))), (0, .ref (aD g 0)), (1, .int (iZ a))]) 62 K dX8_print_60 rfl (by decide) rfl ?_
  have loop_62 : ∀ (n9 : Nat) (h11 : Int → Int) (cz : Int), (0 ≤ cz ∧ cz ≤ cc a) → (h11 = iPm pm lt cp lo a cz) → (cc a - cz < (n9 : Int)) → Z p l e (({ frames := 4, cells := 0, slots := 0, locals := 103 } : Room)) s m args below meth c (MQ below (zQi g (fun z C' => IW g C' (mPrint f a) (mKp k + 1) (mSav f past k) ty tx ∧ zSame C C' ∧ z = b2i (sStale f a))) args s 0 0 (zA g)) g 6 0 0 (va_up (va_up C_4 10 (eI g 12 (zu pn a (cc a)))) 11 (eI g 72 h11)) [(0, .ref (aD g 0)), (1, .int (iZ a)), (2, .int (iZ (b2i (iSt (fun k => k) lt lo cc cp pn pm a)))), (3, .int (iZ (cc a))), (4, .int (iZ cz))] 62 [] := by
    intro n9
    induction n9 with
    | zero =>
      intro h11 cz hkc hh hm9
      exact absurd hm9 (by omega)
    | succ n9 ih9 =>
      intro h11 cz hkc hh hm_62
      have ih_62 := ih9
      clear ih9
      refine z_iload 64 K dX8_print_62 rfl 4 rfl ?_
      refine z_iload_n 65 K dX8_print_64 rfl rfl 3 rfl ?_
      refine z_icmp_ge (tgt := 131) 68 K dX8_print_65 rfl (by decide) (by omega) (by omega) (fun c_65 => ?_) (fun c_65 => ?_)
      · skip
        have ec : cz = cc a := by omega
        have hRp := RS_print hR hVR hw hq
        rw [← ec, ← hh, ec] at hRp
        refine z_iload_n 132 K dX8_print_131 rfl rfl 2 rfl ?_
        exact z_iret K rfl dX8_print_132 ⟨IW_pr (cap := cap) (a := a) hB2 hT2 hX2 hHn_12 (fun q hq => ((va_up_ne _ _ (by omega)).trans ((va_up_ne _ _ (by omega)).trans rfl))) hw hq ⟨((va_up_ne _ _ (by decide)).trans ((va_up_ne _ _ (by decide)).trans hf_12_1)), ((va_up_ne _ _ (by decide)).trans ((va_up_ne _ _ (by decide)).trans hf_12_2)), ((va_up_ne _ _ (by decide)).trans ((va_up_ne _ _ (by decide)).trans hf_12_3)), ((va_up_ne _ _ (by decide)).trans ((va_up_ne _ _ (by decide)).trans hf_12_4)), ((va_up_ne _ _ (by decide)).trans ((va_up_ne _ _ (by decide)).trans hf_12_5)), ((va_up_ne _ _ (by decide)).trans ((va_up_ne _ _ (by decide)).trans hf_12_6)), ((va_up_ne _ _ (by decide)).trans ((va_up_ne _ _ (by decide)).trans hf_12_7)), ((va_up_ne _ _ (by decide)).trans ((va_up_ne _ _ (by decide)).trans hf_12_8)), ((va_up_ne _ _ (by decide)).trans ((va_up_ne _ _ (by decide)).trans hf_12_9)), ((va_up_ne _ _ (by decide)).trans (va_up_eq _ 10 _)), (va_up_eq _ 11 _)⟩ hRp ⟨((va_up_ne _ _ (by decide)).trans ((va_up_ne _ _ (by decide)).trans hf_12_12)), ((va_up_ne _ _ (by decide)).trans ((va_up_ne _ _ (by decide)).trans hf_12_13)), ((va_up_ne _ _ (by decide)).trans ((va_up_ne _ _ (by decide)).trans hf_12_14)), ((va_up_ne _ _ (by decide)).trans ((va_up_ne _ _ (by decide)).trans hf_12_15)), ((va_up_ne _ _ (by decide)).trans ((va_up_ne _ _ (by decide)).trans hf_12_16)), ((va_up_ne _ _ (by decide)).trans ((va_up_ne _ _ (by decide)).trans hf_12_17))⟩ hVR, fun q hq => (((va_up_ne _ _ (by omega)).trans ((va_up_ne _ _ (by omega)).trans rfl))).trans (hsm_12 q (by omega)), (by rw [stale_same hR hVR hw hq.1 hq.2])⟩
      · skip
        refine z_iload_n 69 K dX8_print_68 rfl rfl 1 rfl ?_
        refine z_iload 71 K dX8_print_69 rfl 4 rfl ?_
        refine z_vSi (As := [.int (iZ a), .int (iZ cz)]) (rest := []) 74 K (m_X8_cellOf l g _ a cz ) (va_cwS 2 K.1.2.2.2.2 gX8_print_X8_cellOf rfl rfl rfl (by decide +kernel) ⟨Nat.le_of_ble_eq_true rfl, Nat.le_of_ble_eq_true rfl⟩) rfl (Nat.le_of_ble_eq_true rfl) dX8_print_71 rfl ⟨Nat.le_of_ble_eq_true rfl, Nat.le_of_ble_eq_true rfl⟩ rfl (fun z_7 C_8 hp_71 => ?_)
        refine z_C hp_71.1 ?_
        refine z_top (6 * a + cz) hp_71.2 ?_
        refine z_istore (lv' := [(5, .int (iZ (6 * a + cz))), (0, .ref (aD g 0)), (1, .int (iZ a)), (2, .int (iZ (b2i (iSt (fun k => k) lt lo cc cp pn pm a)))), (3, .int (iZ (cc a))), (4, .int (iZ cz))]) 76 K dX8_print_74 rfl (by decide) rfl ?_
        refine z_aload_n 77 K dX8_print_76 rfl rfl 1 rfl ?_
        refine z_get 80 K hin_X8_print_X8 0 (by decide) ((va_up_ne _ _ (by decide)).trans ((va_up_ne _ _ (by decide)).trans hf_12_0)) rfl 0 (by decide) (by decide +kernel : Cond.fieldLink RX8 12 "BriefBuilder" "state" "LBriefBuilder$State;" ∈ wsX8_print) (fun _ h9 => h9) rfl dX8_print_77 rfl ?_
        refine z_get 83 K hin_X8_print_X4 1 (by decide) ((va_up_ne _ _ (by decide)).trans ((va_up_ne _ _ (by decide)).trans hf_12_1)) rfl 2 (by decide) (by decide +kernel : Cond.fieldLink RX8 151 "BriefBuilder$State" "prints" "LBriefBuilder$Prints;" ∈ wsX8_print) (fun _ h9 => h9) rfl dX8_print_80 rfl ?_
        refine z_get 86 K hin_X8_print_X3 9 (by decide) ((va_up_ne _ _ (by decide)).trans ((va_up_ne _ _ (by decide)).trans hf_12_9)) rfl 1 (by decide) (by decide +kernel : Cond.fieldLink RX8 161 "BriefBuilder$Prints" "marks" "[I" ∈ wsX8_print) (fun _ h9 => h9) rfl dX8_print_83 rfl ?_
        refine z_iload 88 K dX8_print_86 rfl 0 rfl ?_
        refine z_aload_n 89 K dX8_print_88 rfl rfl 1 rfl ?_
        refine z_get 92 K hin_X8_print_X8 0 (by decide) ((va_up_ne _ _ (by decide)).trans ((va_up_ne _ _ (by decide)).trans hf_12_0)) rfl 1 (by decide) (by decide +kernel : Cond.fieldLink RX8 19 "BriefBuilder" "view" "LBriefBuilder$View;" ∈ wsX8_print) (fun _ h9 => h9) rfl dX8_print_89 rfl ?_
        refine z_get 95 K hin_X8_print_X7 12 (by decide) ((va_up_ne _ _ (by decide)).trans ((va_up_ne _ _ (by decide)).trans hf_12_12)) rfl 3 (by decide) (by decide +kernel : Cond.fieldLink RX8 164 "BriefBuilder$View" "letters" "[I" ∈ wsX8_print) (fun _ h9 => h9) rfl dX8_print_92 rfl ?_
        refine z_iload 97 K dX8_print_95 rfl 0 rfl ?_
        refine z_iald (f := lt) 98 K 16 (by decide) ((va_up_ne _ _ (by decide)).trans ((va_up_ne _ _ (by decide)).trans hf_12_16)) (by omega) (by omega) (by decide) dX8_print_97 rfl ?_
        refine z_aload_n 99 K dX8_print_98 rfl rfl 1 rfl ?_
        refine z_get 102 K hin_X8_print_X8 0 (by decide) ((va_up_ne _ _ (by decide)).trans ((va_up_ne _ _ (by decide)).trans hf_12_0)) rfl 0 (by decide) (by decide +kernel : Cond.fieldLink RX8 12 "BriefBuilder" "state" "LBriefBuilder$State;" ∈ wsX8_print) (fun _ h9 => h9) rfl dX8_print_99 rfl ?_
        refine z_get 105 K hin_X8_print_X4 1 (by decide) ((va_up_ne _ _ (by decide)).trans ((va_up_ne _ _ (by decide)).trans hf_12_1)) rfl 1 (by decide) (by decide +kernel : Cond.fieldLink RX8 111 "BriefBuilder$State" "citations" "LBriefBuilder$Citations;" ∈ wsX8_print) (fun _ h9 => h9) rfl dX8_print_102 rfl ?_
        refine z_get 108 K hin_X8_print_X0 5 (by decide) ((va_up_ne _ _ (by decide)).trans ((va_up_ne _ _ (by decide)).trans hf_12_5)) rfl 2 (by decide) (by decide +kernel : Cond.fieldLink RX8 167 "BriefBuilder$Citations" "pages" "[I" ∈ wsX8_print) (fun _ h9 => h9) rfl dX8_print_105 rfl ?_
        refine z_iload 110 K dX8_print_108 rfl 0 rfl ?_
        refine z_iald (f := cp) 111 K 8 (by decide) ((va_up_ne _ _ (by decide)).trans ((va_up_ne _ _ (by decide)).trans hf_12_8)) (by omega) (by omega) (by decide) dX8_print_110 rfl ?_
        refine z_aload_n 112 K dX8_print_111 rfl rfl 1 rfl ?_
        refine z_get 115 K hin_X8_print_X8 0 (by decide) ((va_up_ne _ _ (by decide)).trans ((va_up_ne _ _ (by decide)).trans hf_12_0)) rfl 1 (by decide) (by decide +kernel : Cond.fieldLink RX8 19 "BriefBuilder" "view" "LBriefBuilder$View;" ∈ wsX8_print) (fun _ h9 => h9) rfl dX8_print_112 rfl ?_
        refine z_get 118 K hin_X8_print_X7 12 (by decide) ((va_up_ne _ _ (by decide)).trans ((va_up_ne _ _ (by decide)).trans hf_12_12)) rfl 4 (by decide) (by decide +kernel : Cond.fieldLink RX8 139 "BriefBuilder$View" "lost" "[Z" ∈ wsX8_print) (fun _ h9 => h9) rfl dX8_print_115 rfl ?_
        refine z_iload 120 K dX8_print_118 rfl 0 rfl ?_
        refine z_zald (f := lo) 121 K 17 (by decide) ((va_up_ne _ _ (by decide)).trans ((va_up_ne _ _ (by decide)).trans hf_12_17)) (by omega) (by omega) (by decide) dX8_print_120 rfl ?_
        have hl9 := hVR.2.2.2 (6 * a + cz)
        refine z_vSi (As := [.int (iZ (lt (6 * a + cz))), .int (iZ (cp (6 * a + cz))), .int (iZ (lo (6 * a + cz)))]) (rest := [.int (iZ (6 * a + cz)), .ref (aD g 11)]) 124 K (m_X8_markOf l g _ (lt (6 * a + cz)) (cp (6 * a + cz)) (lo (6 * a + cz)) (by omega)) (va_cwS 3 K.1.2.2.2.2 gX8_print_X8_markOf rfl rfl rfl (by decide +kernel) ⟨Nat.le_of_ble_eq_true rfl, Nat.le_of_ble_eq_true rfl⟩) rfl (Nat.le_of_ble_eq_true rfl) dX8_print_121 rfl ⟨Nat.le_of_ble_eq_true rfl, Nat.le_of_ble_eq_true rfl⟩ rfl (fun z_9 C_10 hp_121 => ?_)
        refine z_C hp_121.1 ?_
        refine z_top (122 * (lt (6 * a + cz)) + 2 * (cp (6 * a + cz)) + lo (6 * a + cz) + 122) hp_121.2 ?_
        refine z_iast (f := h11) 125 K 11 (by decide) (va_up_eq _ 11 _) (by omega) (by omega) (by decide) dX8_print_124 rfl ?_
        refine z_C (va_uu _ _ _ _) ?_
        refine z_iinc (lv' := [(4, .int (iZ (cz + 1))), (5, .int (iZ (6 * a + cz))), (0, .ref (aD g 0)), (1, .int (iZ a)), (2, .int (iZ (b2i (iSt (fun k => k) lt lo cc cp pn pm a)))), (3, .int (iZ (cc a)))]) 128 K dX8_print_125 rfl (cz + 1) rfl 5 rfl (by decide) rfl ?_
        refine z_goto (tgt := 62) K dX8_print_128 (by decide) ?_
        refine z_sub [2, 3, 4, 5, 0] rfl ?_
        exact ih_62 (zu h11 (6 * a + cz) (122 * (lt (6 * a + cz)) + 2 * (cp (6 * a + cz)) + lo (6 * a + cz) + 122)) (cz + 1) (by omega) (by rw [hh]; exact iPm_1 hkc.1) (by omega)
  refine z_sub [3, 4, 2, 1, 0] rfl ?_
  refine z_C (va_us ((va_up_ne _ _ (by decide)).trans hf_12_11)).symm ?_
  exact loop_62 (Int.toNat (cc a - 0) + 1) pm 0 (by omega) ((iPm_0 pm lt cp lo a).symm) (by omega)


set_option maxRecDepth 20000 in
theorem hin_X8_undo_X2 : ∀ w ∈ wsX20, w ∈ wsX8_undo := by decide +kernel
set_option maxRecDepth 20000 in
theorem hin_X8_undo_X8 : ∀ w ∈ wsX80, w ∈ wsX8_undo := by decide +kernel
set_option maxRecDepth 20000 in
theorem hat1_X8_undo_10 : ∀ w ∈ (vx_atS RX8 110 "java/lang/IllegalStateException" ["java/lang/RuntimeException", "java/lang/Exception"]).filter goodWord, w ∈ wsX8_undo := by decide +kernel
set_option maxHeartbeats 4000000 in
set_option maxRecDepth 100000 in
theorem x_X8_undo (l : Launch) (g : zG) (C : Nat → va_E) (f : Int → Int) (past : Int → Int) (tx : Int → Int) (k : Int) (ty : Int) (cap : Int) (hI : IW g C f k past ty tx) (hP : PW cap f k past ty tx) (hk9 : kUnd k ≠ 0) (hlt : l.stackTraces = false) : vx_Met l yX8_undo wsX8_undo ({ frames := 6, cells := 1, slots := 6, locals := 82 } : Room) (zPre g C [.ref (aD g 0)]) (zQi g (fun z C' => False)) (zX g (fun E C' => IW g C' f k past ty tx ∧ zSame C C' ∧ ((E = "java/lang/IllegalStateException" ∧ kUnd k = 1)))) 1 6 (zA g) := by
  refine z_enterX RX8 rfl (by decide) rfl (Nat.le_of_ble_eq_true rfl) ?_
  intro p e s m args below meth c K harg hne
  refine z_sub (lv' := [(0, .ref (aD g 0))]) [0] rfl ?_
  have hI0 := hI
  obtain ⟨hB, hL, hV, hT, hH, hX⟩ := hI
  obtain ⟨hMa, hSp⟩ := id hB
  obtain ⟨num, pgs, cc, cn, cp, pn, pm, ⟨hSt, hEx, hNum, hPgs, hCi, hCc, hCn, hCp, hPr, hPc, hPm⟩, hR⟩ := id hL
  obtain ⟨vb, vt, vf, lt, lo, ⟨hVw, hVb, hVt, hVf, hLe, hLo⟩, hVR⟩ := id hV
  obtain ⟨tc, np, tp, hTr, hTn, hTp, hnp⟩ := id hT
  obtain ⟨cur, stp, pl, px, hTx, hXc, hXl, hXp, hpx⟩ := id hX
  obtain ⟨old, hHi, hHs, hho, -, -⟩ := id hH
  obtain ⟨hw, hk, hpst, hty, htxr, hrtx, hrp, hcap⟩ := id hP
  have hn := hw.n
  have hnx := hw.nx
  have hbp := hw.bp
  refine z_aload_n 1 K dX8_undo_0 rfl rfl 0 rfl ?_
  refine z_get 4 K hin_X8_undo_X8 0 (by decide) hMa rfl 3 (by decide) (by decide +kernel : Cond.fieldLink RX8 33 "BriefBuilder" "history" "LBriefBuilder$History;" ∈ wsX8_undo) (fun _ h9 => h9) rfl dX8_undo_1 rfl ?_
  refine z_get 7 K hin_X8_undo_X2 21 (by decide) hHi rfl 2 (by decide) (by decide +kernel : Cond.fieldLink RX8 205 "BriefBuilder$History" "count" "I" ∈ wsX8_undo) (fun _ h9 => h9) rfl dX8_undo_4 rfl ?_
  refine z_if_ne (tgt := 20) 10 K dX8_undo_7 rfl (by decide) (by omega) (fun c_7 => ?_) (fun c_7 => ?_)
  · skip
    exact absurd (by unfold kUnd; repeat (first | omega | split)) hk9
  · skip
    exact z_throw hne K hlt (cls := "java/lang/IllegalStateException") (text := "there is no saved state") (names := ["java/lang/RuntimeException", "java/lang/Exception"]) (by decide +kernel) (by decide +kernel) (by decide +kernel) (by decide +kernel) (by decide +kernel) hat1_X8_undo_10 at_IS_2 at_IS_g dX8_undo_10 dX8_undo_13 dX8_undo_14 dX8_undo_16 dX8_undo_19 (Nat.le_of_ble_eq_true rfl) (Nat.le_of_ble_eq_true rfl) (Nat.le_of_ble_eq_true rfl) (Nat.le_of_ble_eq_true rfl) (Nat.le_of_ble_eq_true rfl) (Nat.le_of_ble_eq_true rfl) ⟨hI0, zSame_rf _, ⟨rfl, (by unfold kUnd; repeat (first | omega | split))⟩⟩
set_option maxHeartbeats 4000000 in
set_option maxRecDepth 100000 in
theorem a_X8_undo (l : Launch) (g : zG) (C : Nat → va_E) (f : Int → Int) (past : Int → Int) (tx : Int → Int) (k : Int) (ty : Int) (cap : Int) (hI : IW g C f k past ty tx) (hP : PW cap f k past ty tx) (hk9 : kUnd k = 0) : Met l yX8_undo wsX8_undo ({ frames := 4, cells := 0, slots := 0, locals := 103 } : Room) (zPre g C [.ref (aD g 0)]) (zQi g (fun z C' => IW g C' (mPast past (k - 1)) (k - 1) past ty tx ∧ zSame C C' ∧ z = k - 1)) 0 0 (zA g) := by
  refine z_enter RX8 rfl (by decide) rfl (Nat.le_of_ble_eq_true rfl) ?_
  intro p e s m args below meth c K harg
  refine z_sub (lv' := [(0, .ref (aD g 0))]) [0] rfl ?_
  have hI0 := hI
  obtain ⟨hB, hL, hV, hT, hH, hX⟩ := hI
  obtain ⟨hMa, hSp⟩ := id hB
  obtain ⟨num, pgs, cc, cn, cp, pn, pm, ⟨hSt, hEx, hNum, hPgs, hCi, hCc, hCn, hCp, hPr, hPc, hPm⟩, hR⟩ := id hL
  obtain ⟨vb, vt, vf, lt, lo, ⟨hVw, hVb, hVt, hVf, hLe, hLo⟩, hVR⟩ := id hV
  obtain ⟨tc, np, tp, hTr, hTn, hTp, hnp⟩ := id hT
  obtain ⟨cur, stp, pl, px, hTx, hXc, hXl, hXp, hpx⟩ := id hX
  obtain ⟨old, hHi, hHs, hho, -, -⟩ := id hH
  obtain ⟨hw, hk, hpst, hty, htxr, hrtx, hrp, hcap⟩ := id hP
  have hn := hw.n
  have hnx := hw.nx
  have hbp := hw.bp
  have hq : 1 ≤ k := by
    unfold kUnd at hk9
    repeat (first | omega | split at hk9)
  refine z_aload_n 1 K dX8_undo_0 rfl rfl 0 rfl ?_
  refine z_get 4 K hin_X8_undo_X8 0 (by decide) hMa rfl 3 (by decide) (by decide +kernel : Cond.fieldLink RX8 33 "BriefBuilder" "history" "LBriefBuilder$History;" ∈ wsX8_undo) (fun _ h9 => h9) rfl dX8_undo_1 rfl ?_
  refine z_get 7 K hin_X8_undo_X2 21 (by decide) hHi rfl 2 (by decide) (by decide +kernel : Cond.fieldLink RX8 205 "BriefBuilder$History" "count" "I" ∈ wsX8_undo) (fun _ h9 => h9) rfl dX8_undo_4 rfl ?_
  refine z_if_ne (tgt := 20) 10 K dX8_undo_7 rfl (by decide) (by omega) (fun c_7 => ?_) (fun c_7 => ?_)
  · skip
    refine z_aload_n 21 K dX8_undo_20 rfl rfl 0 rfl ?_
    refine z_get 24 K hin_X8_undo_X8 0 (by decide) hMa rfl 3 (by decide) (by decide +kernel : Cond.fieldLink RX8 33 "BriefBuilder" "history" "LBriefBuilder$History;" ∈ wsX8_undo) (fun _ h9 => h9) rfl dX8_undo_21 rfl ?_
    refine z_aload_n 25 K dX8_undo_24 rfl rfl 0 rfl ?_
    refine z_get 28 K hin_X8_undo_X8 0 (by decide) hMa rfl 0 (by decide) (by decide +kernel : Cond.fieldLink RX8 12 "BriefBuilder" "state" "LBriefBuilder$State;" ∈ wsX8_undo) (fun _ h9 => h9) rfl dX8_undo_25 rfl ?_
    refine z_vVv (As := [.ref (aD g 1)]) (rest := []) 31 K 21 (by decide) hHi rfl rfl (s_X2_restore l g _ f past k hH hL (by omega)) (cwV 1 K.1.2.2.2.2 gX8_undo_X2_restore rfl rfl rfl (by decide +kernel) ⟨Nat.le_of_ble_eq_true rfl, Nat.le_of_ble_eq_true rfl⟩) rfl (Nat.le_of_ble_eq_true rfl) dX8_undo_28 rfl ⟨Nat.le_of_ble_eq_true rfl, Nat.le_of_ble_eq_true rfl⟩ rfl (fun C_2 hp_28 => ?_)
    obtain ⟨hHn_28, hLn_28, ⟨old_28, h21_28⟩, hsm_28⟩ := hp_28
    have hf_28_0 : C_2 0 = .inr (8, [.ref (aD g 1), .ref (aD g 12), .ref (aD g 18), .ref (aD g 21), .ref (aD g 23), .ref (aD g 27)]) := (hsm_28 0 (by omega)).trans hMa
    have hf_28_27 : C_2 27 = eI g 30 (fun k => k) := (hsm_28 27 (by omega)).trans hSp
    have hf_28_12 : C_2 12 = .inr (7, [.ref (aD g 13), .ref (aD g 14), .ref (aD g 15), .ref (aD g 16), .ref (aD g 17), .int (iZ (sBds f))]) := (hsm_28 12 (by omega)).trans hVw
    have hf_28_13 : C_2 13 = eI g 30 vb := (hsm_28 13 (by omega)).trans hVb
    have hf_28_14 : C_2 14 = eI g 30 vt := (hsm_28 14 (by omega)).trans hVt
    have hf_28_15 : C_2 15 = eI g 30 vf := (hsm_28 15 (by omega)).trans hVf
    have hf_28_16 : C_2 16 = eI g 72 lt := (hsm_28 16 (by omega)).trans hLe
    have hf_28_17 : C_2 17 = eZ g 72 lo := (hsm_28 17 (by omega)).trans hLo
    have hf_28_18 : C_2 18 = .inr (6, [.ref (aD g 19), .ref (aD g 20), .int (iZ tc)]) := (hsm_28 18 (by omega)).trans hTr
    have hf_28_19 : C_2 19 = eI g 30 np := (hsm_28 19 (by omega)).trans hTn
    have hf_28_20 : C_2 20 = eI g 31 tp := (hsm_28 20 (by omega)).trans hTp
    have hf_28_22 : C_2 22 = eS g 6 (fun k => some (aD g (28 + 11 * k))) := (hsm_28 22 (by omega)).trans hHs
    have hf_28_23 : C_2 23 = .inr (5, [.ref (aD g 24), .int (iZ ty), .ref (aD g 25), .ref (aD g 26), .int (iZ cur), .int (iZ stp)]) := (hsm_28 23 (by omega)).trans hTx
    have hf_28_24 : C_2 24 = eI g 60 tx := (hsm_28 24 (by omega)).trans hXc
    have hf_28_25 : C_2 25 = eI g 6 pl := (hsm_28 25 (by omega)).trans hXl
    have hf_28_26 : C_2 26 = eI g 6 px := (hsm_28 26 (by omega)).trans hXp
    obtain ⟨num2, pgs2, cc2, cn2, cp2, pn2, pm2, ⟨gSt, gEx, gNum, gPgs, gCi, gCc, gCn, gCp, gPr, gPc, gPm⟩, hR2⟩ := id hLn_28
    have hw2 : WF (mPast past (k - 1)) cap := hpst (k - 1) (by omega) (by omega)
    have hn2 := hw2.n
    have hbp2 := hw2.bp
    have hB2 := wB_cong hB (fun q hq => hsm_28 q (by omega))
    have hT2 := wT_cong hT (fun q hq => hsm_28 q (by omega))
    have hX2 := wX_cong hX (fun q hq => hsm_28 q (by omega))
    refine z_aload_n 32 K dX8_undo_31 rfl rfl 0 rfl ?_
    refine z_get 35 K hin_X8_undo_X8 0 (by decide) hf_28_0 rfl 1 (by decide) (by decide +kernel : Cond.fieldLink RX8 19 "BriefBuilder" "view" "LBriefBuilder$View;" ∈ wsX8_undo) (fun _ h9 => h9) rfl dX8_undo_32 rfl ?_
    refine z_aload_n 36 K dX8_undo_35 rfl rfl 0 rfl ?_
    refine z_get 39 K hin_X8_undo_X8 0 (by decide) hf_28_0 rfl 0 (by decide) (by decide +kernel : Cond.fieldLink RX8 12 "BriefBuilder" "state" "LBriefBuilder$State;" ∈ wsX8_undo) (fun _ h9 => h9) rfl dX8_undo_36 rfl ?_
    refine z_vVv (As := [.ref (aD g 1)]) (rest := []) 42 K 12 (by decide) hf_28_12 rfl rfl (m_X7_follow l g _ (sBds f) vb vt vf lt lo (mPast past (k - 1) 1) (mPast past (k - 1) 2) (mPast past (k - 1) 0) num2 pgs2 cc2 cn2 cp2 hf_28_12 hf_28_13 hf_28_14 hf_28_15 hf_28_16 hf_28_17 gSt gEx gNum gPgs gCi gCc gCn gCp (by omega) (by omega) (hR2.hpg hw2) (hR2.hcc hw2) hVR.2.2.1 hVR.2.2.2 hR2.r1 hR2.r2 (hR2.hcp hw2)) (cwV 1 K.1.2.2.2.2 gX8_undo_X7_follow rfl rfl rfl (by decide +kernel) ⟨Nat.le_of_ble_eq_true rfl, Nat.le_of_ble_eq_true rfl⟩) rfl (Nat.le_of_ble_eq_true rfl) dX8_undo_39 rfl ⟨Nat.le_of_ble_eq_true rfl, Nat.le_of_ble_eq_true rfl⟩ rfl (fun C_4 hp_39 => ?_)
    obtain ⟨w13_5, w14_6, w15_7, w16_8, w17_9, hC_39, hvf_39, hcf_39, hl16_39, hl17_39⟩ := hp_39
    refine z_C hC_39 ?_
    refine z_aload_n 43 K dX8_undo_42 rfl rfl 0 rfl ?_
    refine z_get 46 K hin_X8_undo_X8 0 (by decide) ((va_up_ne _ _ (by decide)).trans ((va_up_ne _ _ (by decide)).trans ((va_up_ne _ _ (by decide)).trans ((va_up_ne _ _ (by decide)).trans ((va_up_ne _ _ (by decide)).trans ((va_up_ne _ _ (by decide)).trans hf_28_0)))))) rfl 3 (by decide) (by decide +kernel : Cond.fieldLink RX8 33 "BriefBuilder" "history" "LBriefBuilder$History;" ∈ wsX8_undo) (fun _ h9 => h9) rfl dX8_undo_43 rfl ?_
    refine z_get 49 K hin_X8_undo_X2 21 (by decide) ((va_up_ne _ _ (by decide)).trans ((va_up_ne _ _ (by decide)).trans ((va_up_ne _ _ (by decide)).trans ((va_up_ne _ _ (by decide)).trans ((va_up_ne _ _ (by decide)).trans ((va_up_ne _ _ (by decide)).trans h21_28)))))) rfl 2 (by decide) (by decide +kernel : Cond.fieldLink RX8 205 "BriefBuilder$History" "count" "I" ∈ wsX8_undo) (fun _ h9 => h9) rfl dX8_undo_46 rfl ?_
    exact z_iret K rfl dX8_undo_49 ⟨IW_mk hB2 hT2 hX2 hHn_28 (fun q hq => ((va_up_ne _ _ (by omega)).trans ((va_up_ne _ _ (by omega)).trans ((va_up_ne _ _ (by omega)).trans ((va_up_ne _ _ (by omega)).trans ((va_up_ne _ _ (by omega)).trans ((va_up_ne _ _ (by omega)).trans rfl))))))) ⟨((va_up_ne _ _ (by decide)).trans ((va_up_ne _ _ (by decide)).trans ((va_up_ne _ _ (by decide)).trans ((va_up_ne _ _ (by decide)).trans ((va_up_ne _ _ (by decide)).trans ((va_up_ne _ _ (by decide)).trans gSt)))))), ((va_up_ne _ _ (by decide)).trans ((va_up_ne _ _ (by decide)).trans ((va_up_ne _ _ (by decide)).trans ((va_up_ne _ _ (by decide)).trans ((va_up_ne _ _ (by decide)).trans ((va_up_ne _ _ (by decide)).trans gEx)))))), ((va_up_ne _ _ (by decide)).trans ((va_up_ne _ _ (by decide)).trans ((va_up_ne _ _ (by decide)).trans ((va_up_ne _ _ (by decide)).trans ((va_up_ne _ _ (by decide)).trans ((va_up_ne _ _ (by decide)).trans gNum)))))), ((va_up_ne _ _ (by decide)).trans ((va_up_ne _ _ (by decide)).trans ((va_up_ne _ _ (by decide)).trans ((va_up_ne _ _ (by decide)).trans ((va_up_ne _ _ (by decide)).trans ((va_up_ne _ _ (by decide)).trans gPgs)))))), ((va_up_ne _ _ (by decide)).trans ((va_up_ne _ _ (by decide)).trans ((va_up_ne _ _ (by decide)).trans ((va_up_ne _ _ (by decide)).trans ((va_up_ne _ _ (by decide)).trans ((va_up_ne _ _ (by decide)).trans gCi)))))), ((va_up_ne _ _ (by decide)).trans ((va_up_ne _ _ (by decide)).trans ((va_up_ne _ _ (by decide)).trans ((va_up_ne _ _ (by decide)).trans ((va_up_ne _ _ (by decide)).trans ((va_up_ne _ _ (by decide)).trans gCc)))))), ((va_up_ne _ _ (by decide)).trans ((va_up_ne _ _ (by decide)).trans ((va_up_ne _ _ (by decide)).trans ((va_up_ne _ _ (by decide)).trans ((va_up_ne _ _ (by decide)).trans ((va_up_ne _ _ (by decide)).trans gCn)))))), ((va_up_ne _ _ (by decide)).trans ((va_up_ne _ _ (by decide)).trans ((va_up_ne _ _ (by decide)).trans ((va_up_ne _ _ (by decide)).trans ((va_up_ne _ _ (by decide)).trans ((va_up_ne _ _ (by decide)).trans gCp)))))), ((va_up_ne _ _ (by decide)).trans ((va_up_ne _ _ (by decide)).trans ((va_up_ne _ _ (by decide)).trans ((va_up_ne _ _ (by decide)).trans ((va_up_ne _ _ (by decide)).trans ((va_up_ne _ _ (by decide)).trans gPr)))))), ((va_up_ne _ _ (by decide)).trans ((va_up_ne _ _ (by decide)).trans ((va_up_ne _ _ (by decide)).trans ((va_up_ne _ _ (by decide)).trans ((va_up_ne _ _ (by decide)).trans ((va_up_ne _ _ (by decide)).trans gPc)))))), ((va_up_ne _ _ (by decide)).trans ((va_up_ne _ _ (by decide)).trans ((va_up_ne _ _ (by decide)).trans ((va_up_ne _ _ (by decide)).trans ((va_up_ne _ _ (by decide)).trans ((va_up_ne _ _ (by decide)).trans gPm))))))⟩ rfl rfl rfl hR2 hw2 ⟨((va_up_ne _ _ (by decide)).trans ((va_up_ne _ _ (by decide)).trans (va_up_eq _ 12 _))), ((va_up_ne _ _ (by decide)).trans ((va_up_ne _ _ (by decide)).trans ((va_up_ne _ _ (by decide)).trans ((va_up_ne _ _ (by decide)).trans ((va_up_ne _ _ (by decide)).trans (va_up_eq _ 13 _)))))), ((va_up_ne _ _ (by decide)).trans ((va_up_ne _ _ (by decide)).trans ((va_up_ne _ _ (by decide)).trans ((va_up_ne _ _ (by decide)).trans (va_up_eq _ 14 _))))), ((va_up_ne _ _ (by decide)).trans ((va_up_ne _ _ (by decide)).trans ((va_up_ne _ _ (by decide)).trans (va_up_eq _ 15 _)))), ((va_up_ne _ _ (by decide)).trans (va_up_eq _ 16 _)), (va_up_eq _ 17 _)⟩ rfl hvf_39 hcf_39 hl16_39 hl17_39, fun q hq => (((va_up_ne _ _ (by omega)).trans ((va_up_ne _ _ (by omega)).trans ((va_up_ne _ _ (by omega)).trans ((va_up_ne _ _ (by omega)).trans ((va_up_ne _ _ (by omega)).trans ((va_up_ne _ _ (by omega)).trans rfl))))))).trans (hsm_28 q (by omega)), rfl⟩
  · skip
    exact absurd hq (by omega)
end ZIM2
