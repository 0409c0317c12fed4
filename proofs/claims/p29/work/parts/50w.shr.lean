/-! p29: the class: its share -/
section ZSH
set_option maxRecDepth 20000 in
theorem hin_X8_citedShare_X1 : ∀ w ∈ wsX10, w ∈ wsX8_citedShare := by decide +kernel
set_option maxRecDepth 20000 in
theorem hin_X8_citedShare_X4 : ∀ w ∈ wsX40, w ∈ wsX8_citedShare := by decide +kernel
set_option maxRecDepth 20000 in
theorem hin_X8_citedShare_X8 : ∀ w ∈ wsX80, w ∈ wsX8_citedShare := by decide +kernel
set_option maxHeartbeats 4000000 in
set_option maxRecDepth 100000 in
theorem a_X8_citedShare (l : Launch) (g : zG) (C : Nat → va_E) (f : Int → Int) (past : Int → Int) (tx : Int → Int) (k : Int) (ty : Int) (cap : Int) (hI : IW g C f k past ty tx) (hP : PW cap f k past ty tx) : Met l yX8_citedShare wsX8_citedShare ({ frames := 4, cells := 0, slots := 0, locals := 91 } : Room) (zPre g C [.ref (aD g 0)]) (zQd g (fun z C' => C' = C ∧ z = sShare f)) 0 0 (zA g) := by
  refine z_enter RX8 rfl (by decide) rfl (Nat.le_of_ble_eq_true rfl) ?_
  intro p e s m args below meth c K harg
  refine z_sub (lv' := [(0, .ref (aD g 0))]) [0] rfl ?_
  have hI0 := hI
  obtain ⟨hB, hL, hV, hT, hH, hX⟩ := hI
  obtain ⟨hMa, hSp⟩ := id hB
  obtain ⟨num, pgs, cc, cn, cp, pn, pm, ⟨hSt, hEx, hNum, hPgs, hCi, hCc, hCn, hCp, hPr, hPc, hPm⟩, hR⟩ := id hL
  obtain ⟨vb, vt, vf, lt, lo, ⟨hVw, hVb, hVt, hVf, hLe, hLo⟩, hVR⟩ := id hV
  obtain ⟨tc, np, tp, hTr, hTn, hTp, hnp⟩ := id hT
  obtain ⟨cur, stp, pl, px, hTx, hXc, hXl, hXp, hpx⟩ := id hX
  obtain ⟨old, hHi, hHs, hho, -, -⟩ := id hH
  obtain ⟨hw, hk, hpst, hty, htxr, hrtx, hrp, hcap⟩ := id hP
  have hn := hw.n
  have hnx := hw.nx
  have hbp := hw.bp
  have hur := sUnc_rng hw.wr
  refine z_aload_n 1 K dX8_citedShare_0 rfl rfl 0 rfl ?_
  refine z_get 4 K hin_X8_citedShare_X8 0 (by decide) hMa rfl 0 (by decide) (by decide +kernel : Cond.fieldLink RX8 12 "BriefBuilder" "state" "LBriefBuilder$State;" ∈ wsX8_citedShare) (fun _ h9 => h9) rfl dX8_citedShare_1 rfl ?_
  refine z_get 7 K hin_X8_citedShare_X4 1 (by decide) hSt rfl 0 (by decide) (by decide +kernel : Cond.fieldLink RX8 48 "BriefBuilder$State" "exhibits" "LBriefBuilder$Exhibits;" ∈ wsX8_citedShare) (fun _ h9 => h9) rfl dX8_citedShare_4 rfl ?_
  refine z_get 10 K hin_X8_citedShare_X1 2 (by decide) hEx rfl 2 (by decide) (by decide +kernel : Cond.fieldLink RX8 95 "BriefBuilder$Exhibits" "count" "I" ∈ wsX8_citedShare) (fun _ h9 => h9) rfl dX8_citedShare_7 rfl ?_
  refine z_if_ne (tgt := 15) 13 K dX8_citedShare_10 rfl (by decide) (by omega) (fun c_10 => ?_) (fun c_10 => ?_)
  · skip
    refine z_aload_n 16 K dX8_citedShare_15 rfl rfl 0 rfl ?_
    refine z_vVi (As := []) (rest := []) 19 K 0 (by decide) hMa rfl rfl (m_X8_citedExhibits l g _ cc (f 1) (f 2) (f 0) (sBds f) lt lo hMa hSt hCi hCc hEx hVw hLe hLo (by omega) (hR.hcc hw) hVR.2.2.1 hVR.2.2.2) (cwV 0 K.1.2.2.2.2 gX8_citedShare_X8_citedExhibits rfl rfl rfl (by decide +kernel) ⟨Nat.le_of_ble_eq_true rfl, Nat.le_of_ble_eq_true rfl⟩) rfl (Nat.le_of_ble_eq_true rfl) dX8_citedShare_16 rfl ⟨Nat.le_of_ble_eq_true rfl, Nat.le_of_ble_eq_true rfl⟩ rfl (fun z_1 C_2 hp_16 => ?_)
    refine z_C hp_16.1 ?_
    refine z_top (iCe cc lt lo (f 1)) hp_16.2 ?_
    refine z_top (f 1 - sUnc f) (by have q := look_ce hR hVR hw; omega) ?_
    refine z_i2d 20 K dX8_citedShare_19 rfl ?_
    refine z_aload_n 21 K dX8_citedShare_20 rfl rfl 0 rfl ?_
    refine z_get 24 K hin_X8_citedShare_X8 0 (by decide) hMa rfl 0 (by decide) (by decide +kernel : Cond.fieldLink RX8 12 "BriefBuilder" "state" "LBriefBuilder$State;" ∈ wsX8_citedShare) (fun _ h9 => h9) rfl dX8_citedShare_21 rfl ?_
    refine z_get 27 K hin_X8_citedShare_X4 1 (by decide) hSt rfl 0 (by decide) (by decide +kernel : Cond.fieldLink RX8 48 "BriefBuilder$State" "exhibits" "LBriefBuilder$Exhibits;" ∈ wsX8_citedShare) (fun _ h9 => h9) rfl dX8_citedShare_24 rfl ?_
    refine z_get 30 K hin_X8_citedShare_X1 2 (by decide) hEx rfl 2 (by decide) (by decide +kernel : Cond.fieldLink RX8 95 "BriefBuilder$Exhibits" "count" "I" ∈ wsX8_citedShare) (fun _ h9 => h9) rfl dX8_citedShare_27 rfl ?_
    refine z_i2d 31 K dX8_citedShare_30 rfl ?_
    refine z_ddiv 32 K dX8_citedShare_31 rfl (shC_n (shC_at (by omega) (by omega) (by omega) (by omega))) ?_
    exact z_dret K rfl dX8_citedShare_32 ⟨rfl, by unfold sShare; rw [if_neg (by omega)]⟩
  · skip
    refine z_dconst1 14 K dX8_citedShare_13 rfl ?_
    exact z_dret K rfl dX8_citedShare_14 ⟨rfl, by unfold sShare; rw [if_pos (by omega)]⟩
end ZSH
