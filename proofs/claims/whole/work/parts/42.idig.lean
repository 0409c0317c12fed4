/-! the class: its shares and its digest -/
section ZID
set_option maxRecDepth 20000 in
theorem hin_X8_citedShare_X1 : ∀ w ∈ wsX10, w ∈ wsX8_citedShare := by decide +kernel
set_option maxRecDepth 20000 in
theorem hin_X8_citedShare_X4 : ∀ w ∈ wsX40, w ∈ wsX8_citedShare := by decide +kernel
set_option maxRecDepth 20000 in
theorem hin_X8_citedShare_X8 : ∀ w ∈ wsX80, w ∈ wsX8_citedShare := by decide +kernel
set_option maxHeartbeats 4000000 in
set_option maxRecDepth 100000 in
theorem a_X8_citedShare (l : Launch) (g : zG) (C : Nat → va_E) (f : Int → Int) (past : Int → Int) (tx : Int → Int) (k : Int) (ty : Int) (cap : Int) (hI : IW g C f k past ty tx) (hP : PW cap f k past ty tx) : Met l yX8_citedShare wsX8_citedShare ({ frames := 4, cells := 0, slots := 0, locals := 91 } : Room) (zPre g C [.ref (aD g 0)]) (zQd g (fun z C' => C' = C ∧ z = sShare f)) 0 0 (zA g) := by
  refine z_enter RX8 rfl (by decide) rfl (Nat.le_of_ble_eq_true rfl) ?_
  intro p e s m args below meth c K harg
  refine z_sub (lv' := [(0, .ref (aD g 0))]) [0] rfl ?_
  have hI0 := hI
  obtain ⟨hB, hL, hV, hT, hH, hX⟩ := hI
  obtain ⟨hMa, hSp⟩ := id hB
  obtain ⟨num, pgs, cc, cn, cp, pn, pm, ⟨hSt, hEx, hNum, hPgs, hCi, hCc, hCn, hCp, hPr, hPc, hPm⟩, hR⟩ := id hL
  obtain ⟨vb, vt, vf, lt, lo, ⟨hVw, hVb, hVt, hVf, hLe, hLo⟩, hVR⟩ := id hV
  obtain ⟨tc, np, tp, hTr, hTn, hTp, hnp⟩ := id hT
  obtain ⟨cur, stp, pl, px, hTx, hXc, hXl, hXp, hpx⟩ := id hX
  obtain ⟨old, hHi, hHs, hho, -, -⟩ := id hH
  obtain ⟨hw, hk, hpst, hty, htxr, hrtx, hrp, hcap⟩ := id hP
  have hn := hw.n
  have hnx := hw.nx
  have hbp := hw.bp
  have hur := sUnc_rng hw.wr
  refine z_aload_n 1 K dX8_citedShare_0 rfl rfl 0 rfl ?_
  refine z_get 4 K hin_X8_citedShare_X8 0 (by decide) hMa rfl 0 (by decide) (by decide +kernel : Cond.fieldLink RX8 12 "BriefBuilder" "state" "LBriefBuilder$State;" ∈ wsX8_citedShare) (fun _ h9 => h9) rfl dX8_citedShare_1 rfl ?_
  refine z_get 7 K hin_X8_citedShare_X4 1 (by decide) hSt rfl 0 (by decide) (by decide +kernel : Cond.fieldLink RX8 48 "BriefBuilder$State" "exhibits" "LBriefBuilder$Exhibits;" ∈ wsX8_citedShare) (fun _ h9 => h9) rfl dX8_citedShare_4 rfl ?_
  refine z_get 10 K hin_X8_citedShare_X1 2 (by decide) hEx rfl 2 (by decide) (by decide +kernel : Cond.fieldLink RX8 95 "BriefBuilder$Exhibits" "count" "I" ∈ wsX8_citedShare) (fun _ h9 => h9) rfl dX8_citedShare_7 rfl ?_
  refine z_if_ne (tgt := 15) 13 K dX8_citedShare_10 rfl (by decide) (by omega) (fun c_10 => ?_) (fun c_10 => ?_)
  · skip
    refine z_aload_n 16 K dX8_citedShare_15 rfl rfl 0 rfl ?_
    refine z_vVi (As := []) (rest := []) 19 K 0 (by decide) hMa rfl rfl (m_X8_citedExhibits l g _ cc (f 1) (f 2) (f 0) (sBds f) lt lo hMa hSt hCi hCc hEx hVw hLe hLo (by omega) (hR.hcc hw) hVR.2.2.1 hVR.2.2.2) (cwV 0 K.1.2.2.2.2 gX8_citedShare_X8_citedExhibits rfl rfl rfl (by decide +kernel) ⟨Nat.le_of_ble_eq_true rfl, Nat.le_of_ble_eq_true rfl⟩) rfl (Nat.le_of_ble_eq_true rfl) dX8_citedShare_16 rfl ⟨Nat.le_of_ble_eq_true rfl, Nat.le_of_ble_eq_true rfl⟩ rfl (fun z_1 C_2 hp_16 => ?_)
    refine z_C hp_16.1 ?_
    refine z_top (iCe cc lt lo (f 1)) hp_16.2 ?_
    refine z_top (f 1 - sUnc f) (by have q := look_ce hR hVR hw; omega) ?_
    refine z_i2d 20 K dX8_citedShare_19 rfl ?_
    refine z_aload_n 21 K dX8_citedShare_20 rfl rfl 0 rfl ?_
    refine z_get 24 K hin_X8_citedShare_X8 0 (by decide) hMa rfl 0 (by decide) (by decide +kernel : Cond.fieldLink RX8 12 "BriefBuilder" "state" "LBriefBuilder$State;" ∈ wsX8_citedShare) (fun _ h9 => h9) rfl dX8_citedShare_21 rfl ?_
    refine z_get 27 K hin_X8_citedShare_X4 1 (by decide) hSt rfl 0 (by decide) (by decide +kernel : Cond.fieldLink RX8 48 "BriefBuilder$State" "exhibits" "LBriefBuilder$Exhibits;" ∈ wsX8_citedShare) (fun _ h9 => h9) rfl dX8_citedShare_24 rfl ?_
    refine z_get 30 K hin_X8_citedShare_X1 2 (by decide) hEx rfl 2 (by decide) (by decide +kernel : Cond.fieldLink RX8 95 "BriefBuilder$Exhibits" "count" "I" ∈ wsX8_citedShare) (fun _ h9 => h9) rfl dX8_citedShare_27 rfl ?_
    refine z_i2d 31 K dX8_citedShare_30 rfl ?_
    refine z_ddiv 32 K dX8_citedShare_31 rfl (shB_n (shB_at (by omega) (by omega) (by omega) (by omega))) ?_
    exact z_dret K rfl dX8_citedShare_32 ⟨rfl, by unfold sShare; rw [if_neg (by omega)]⟩
  · skip
    refine z_dconst1 14 K dX8_citedShare_13 rfl ?_
    exact z_dret K rfl dX8_citedShare_14 ⟨rfl, by unfold sShare; rw [if_pos (by omega)]⟩
set_option maxHeartbeats 4000000 in
set_option maxRecDepth 100000 in
theorem m_X8_bitsOfShare (l : Launch) (g : zG) (C : Nat → va_E) (x : UInt64) (hb : bAll x = true) : Met l yX8_bitsOfShare wsX8_bitsOfShare ({ frames := 0, cells := 0, slots := 0, locals := 0 } : Room) (zPre g C [.double x]) (zQl g (fun z C' => C' = C ∧ z = bTot x)) 0 0 (zA g) := by
  refine z_enter RX8 rfl (by decide) rfl (Nat.le_of_ble_eq_true rfl) ?_
  intro p e s m args below meth c K harg
  refine z_sub (lv' := [(0, .double x)]) [0] rfl ?_
  have hb0 : bOk 63 x = true := by
    unfold bAll at hb
    rw [Bool.and_eq_true] at hb
    exact hb.1
  have hbs : vf_n64 (FP.dsub (bRun 63 x 1023).1 FP.dconst1) ∧ vf_n64 (FP.dmul (FP.dsub (bRun 63 x 1023).1 FP.dconst1) 4841369599423283200) := by
    unfold bAll at hb
    rw [Bool.and_eq_true, Bool.and_eq_true] at hb
    have q1 := of_decide_eq_true hb.2.1
    have q2 := of_decide_eq_true hb.2.2
    exact ⟨q1, q2⟩
  refine z_dload_n 1 K dX8_bitsOfShare_0 rfl rfl 0 rfl ?_
  refine z_dconst0 2 K dX8_bitsOfShare_1 rfl ?_
  refine z_dcmp 3 K dX8_bitsOfShare_2 rfl (cg x FP.dconst0) (cg_of _ _) ?_
  refine z_if_gt (tgt := 8) 6 K dX8_bitsOfShare_3 rfl (by decide) (cg_rng _ _) (fun c_3 => ?_) (fun c_3 => ?_)
  · skip
    refine z_dload_n 9 K dX8_bitsOfShare_8 rfl rfl 0 rfl ?_
    refine z_dstore_n (lv' := [(2, .double x), (0, .double x)]) 10 K dX8_bitsOfShare_9 rfl rfl (by decide) rfl ?_
    refine z_ldc2l 13 K (1023) (by decide +kernel : Cond.constantLong RX8 336 (1023) ∈ wsX8_bitsOfShare) dX8_bitsOfShare_10 rfl ?_
    refine z_lstore (lv' := [(4, .long (1023)), (2, .double x), (0, .double x)]) 15 K dX8_bitsOfShare_13 rfl (by decide) rfl ?_
    refine z_iconst 16 K dX8_bitsOfShare_15 rfl ?_
    refine z_istore (lv' := [(6, .int (iZ 0)), (4, .long (1023)), (2, .double x), (0, .double x)]) 18 K dX8_bitsOfShare_16 rfl (by decide) rfl ?_
    have loop_18 : ∀ (n9 : Nat) (fr : UInt64) (ex : Int64) (iz : Int), (0 ≤ iz ∧ iz ≤ 63) → (bRun (63 - iz).toNat fr ex = bRun 63 x 1023) → (bOk (63 - iz).toNat fr = true) → (63 - iz < (n9 : Int)) → Z p l e (({ frames := 0, cells := 0, slots := 0, locals := 0 } : Room)) s m args below meth c (MQ below (zQl g (fun z C' => C' = C ∧ z = bTot x)) args s 0 0 (zA g)) g 8 0 0 (C) [(2, .double fr), (4, .long ex), (6, .int (iZ iz))] 18 [] := by
      intro n9
      induction n9 with
      | zero =>
        intro fr ex iz hiz hr hb2 hm9
        exact absurd hm9 (by omega)
      | succ n9 ih9 =>
        intro fr ex iz hiz hr hb2 hm_18
        have ih_18 := ih9
        clear ih9
        refine z_iload 20 K dX8_bitsOfShare_18 rfl 2 rfl ?_
        refine z_bipush 22 K dX8_bitsOfShare_20 rfl rfl ?_
        refine z_icmp_ge (tgt := 49) 25 K dX8_bitsOfShare_22 rfl (by decide) (by omega) (by decide) (fun c_22 => ?_) (fun c_22 => ?_)
        · skip
          have hend := bRun_end (x9 := x) (iz := iz) (fr := fr) (ex := ex) (by omega) hiz.2 hr
          refine z_dload_n 50 K dX8_bitsOfShare_49 rfl rfl 0 rfl ?_
          refine z_dconst1 51 K dX8_bitsOfShare_50 rfl ?_
          refine z_dsub 52 K dX8_bitsOfShare_51 rfl (by have q := hbs.1; rw [hend] at q; exact q) ?_
          refine z_ldc2d 55 K (4841369599423283200) (by decide +kernel : Cond.constantDouble RX8 340 (4841369599423283200) ∈ wsX8_bitsOfShare) dX8_bitsOfShare_52 rfl ?_
          refine z_dmul 56 K dX8_bitsOfShare_55 rfl (by have q := hbs.2; rw [hend] at q; exact q) ?_
          refine z_d2l 57 K dX8_bitsOfShare_56 rfl ?_
          refine z_lstore (lv' := [(6, .long (FP.d2l (FP.dmul (FP.dsub fr FP.dconst1) (4841369599423283200)))), (2, .double fr), (4, .long ex)]) 59 K dX8_bitsOfShare_57 rfl (by decide) rfl ?_
          refine z_lload 61 K dX8_bitsOfShare_59 rfl 2 rfl ?_
          refine z_bipush 63 K dX8_bitsOfShare_61 rfl rfl ?_
          refine z_lshl 64 K dX8_bitsOfShare_63 rfl ?_
          refine z_lload 66 K dX8_bitsOfShare_64 rfl 0 rfl ?_
          refine z_lor 67 K dX8_bitsOfShare_66 rfl ?_
          exact z_lret K rfl dX8_bitsOfShare_67 ⟨rfl, by unfold bTot bBits; rw [if_neg (by omega), hend]⟩
        · skip
          refine z_dload_n 26 K dX8_bitsOfShare_25 rfl rfl 0 rfl ?_
          refine z_dconst1 27 K dX8_bitsOfShare_26 rfl ?_
          refine z_dcmp 28 K dX8_bitsOfShare_27 rfl (cg fr FP.dconst1) (cg_of _ _) ?_
          refine z_if_ge (tgt := 49) 31 K dX8_bitsOfShare_28 rfl (by decide) (cg_rng _ _) (fun c_28 => ?_) (fun c_28 => ?_)
          · skip
            have hend := bRun_end (x9 := x) (iz := iz) (fr := fr) (ex := ex) (by omega) hiz.2 hr
            refine z_dload_n 50 K dX8_bitsOfShare_49 rfl rfl 0 rfl ?_
            refine z_dconst1 51 K dX8_bitsOfShare_50 rfl ?_
            refine z_dsub 52 K dX8_bitsOfShare_51 rfl (by have q := hbs.1; rw [hend] at q; exact q) ?_
            refine z_ldc2d 55 K (4841369599423283200) (by decide +kernel : Cond.constantDouble RX8 340 (4841369599423283200) ∈ wsX8_bitsOfShare) dX8_bitsOfShare_52 rfl ?_
            refine z_dmul 56 K dX8_bitsOfShare_55 rfl (by have q := hbs.2; rw [hend] at q; exact q) ?_
            refine z_d2l 57 K dX8_bitsOfShare_56 rfl ?_
            refine z_lstore (lv' := [(6, .long (FP.d2l (FP.dmul (FP.dsub fr FP.dconst1) (4841369599423283200)))), (2, .double fr), (4, .long ex)]) 59 K dX8_bitsOfShare_57 rfl (by decide) rfl ?_
            refine z_lload 61 K dX8_bitsOfShare_59 rfl 2 rfl ?_
            refine z_bipush 63 K dX8_bitsOfShare_61 rfl rfl ?_
            refine z_lshl 64 K dX8_bitsOfShare_63 rfl ?_
            refine z_lload 66 K dX8_bitsOfShare_64 rfl 0 rfl ?_
            refine z_lor 67 K dX8_bitsOfShare_66 rfl ?_
            exact z_lret K rfl dX8_bitsOfShare_67 ⟨rfl, by unfold bTot bBits; rw [if_neg (by omega), hend]⟩
          · skip
            have hgo := bRun_go (x9 := x) (iz := iz) ⟨hiz.1, by omega⟩ c_28 hr hb2
            refine z_dload_n 32 K dX8_bitsOfShare_31 rfl rfl 0 rfl ?_
            refine z_ldc2d 35 K (4611686018427387904) (by decide +kernel : Cond.constantDouble RX8 338 (4611686018427387904) ∈ wsX8_bitsOfShare) dX8_bitsOfShare_32 rfl ?_
            refine z_dmul 36 K dX8_bitsOfShare_35 rfl hgo.2.2 ?_
            refine z_dstore_n (lv' := [(2, .double (FP.dmul fr (4611686018427387904))), (4, .long ex), (6, .int (iZ iz))]) 37 K dX8_bitsOfShare_36 rfl rfl (by decide) rfl ?_
            refine z_lload 39 K dX8_bitsOfShare_37 rfl 1 rfl ?_
            refine z_lconst 40 K 1 dX8_bitsOfShare_39 rfl rfl ?_
            refine z_lsub 41 K dX8_bitsOfShare_40 rfl ?_
            refine z_lstore (lv' := [(4, .long (ex - 1)), (2, .double (FP.dmul fr (4611686018427387904))), (6, .int (iZ iz))]) 43 K dX8_bitsOfShare_41 rfl (by decide) rfl ?_
            refine z_iinc (lv' := [(6, .int (iZ (iz + 1))), (4, .long (ex - 1)), (2, .double (FP.dmul fr (4611686018427387904)))]) 46 K dX8_bitsOfShare_43 rfl (iz + 1) rfl 2 rfl (by decide) rfl ?_
            refine z_goto (tgt := 18) K dX8_bitsOfShare_46 (by decide) ?_
            refine z_sub [2, 1, 0] rfl ?_
            exact ih_18 (FP.dmul fr (4611686018427387904)) (ex - 1) (iz + 1) (by omega) hgo.1 hgo.2.1 (by omega)
    refine z_sub [2, 1, 0] rfl ?_
    exact loop_18 (Int.toNat (63 - 0) + 1) x (1023) 0 (by omega) (by rw [show (63 - (0 : Int)).toNat = 63 by rfl]) (by rw [show (63 - (0 : Int)).toNat = 63 by rfl]; exact hb0) (by omega)
  · skip
    refine z_lconst 7 K 0 dX8_bitsOfShare_6 rfl rfl ?_
    exact z_lret K rfl dX8_bitsOfShare_7 ⟨rfl, by unfold bTot; rw [if_pos (by omega)]⟩
set_option maxHeartbeats 4000000 in
set_option maxRecDepth 100000 in
theorem m_X8_mixed (l : Launch) (g : zG) (C : Nat → va_E) (h : Int64) (v : Int64)  : Met l yX8_mixed wsX8_mixed ({ frames := 0, cells := 0, slots := 0, locals := 0 } : Room) (zPre g C [.long h, .long v]) (zQl g (fun z C' => C' = C ∧ z = 31 * h + v)) 0 0 (zA g) := by
  refine z_enter RX8 rfl (by decide) rfl (Nat.le_of_ble_eq_true rfl) ?_
  intro p e s m args below meth c K harg
  refine z_sub (lv' := [(0, .long h), (2, .long v)]) [0, 1] rfl ?_
  refine z_ldc2l 3 K (31) (by decide +kernel : Cond.constantLong RX8 334 (31) ∈ wsX8_mixed) dX8_mixed_0 rfl ?_
  refine z_lload_n 4 K dX8_mixed_3 rfl rfl 0 rfl ?_
  refine z_lmul 5 K dX8_mixed_4 rfl ?_
  refine z_lload_n 6 K dX8_mixed_5 rfl rfl 1 rfl ?_
  refine z_ladd 7 K dX8_mixed_6 rfl ?_
  exact z_lret K rfl dX8_mixed_7 ⟨rfl, rfl⟩
set_option maxHeartbeats 4000000 in
set_option maxRecDepth 100000 in
theorem a_X8_mixedWithExhibit (l : Launch) (g : zG) (C : Nat → va_E) (h0 : Int64) (p0 : Int) (f : Int → Int) (past : Int → Int) (tx : Int → Int) (k : Int) (ty : Int) (cap : Int) (hI : IW g C f k past ty tx) (hP : PW cap f k past ty tx) (h_p0 : -2147483648 ≤ p0 ∧ p0 < 2147483648) (hpp : 0 ≤ p0 ∧ p0 < f 1) : Met l yX8_mixedWithExhibit wsX8_mixedWithExhibit ({ frames := 4, cells := 0, slots := 0, locals := 100 } : Room) (zPre g C [.ref (aD g 0), .long h0, .int (iZ p0)]) (zQl g (fun z C' => IW g C' f k past ty tx ∧ zSame C C' ∧ z = sDe f p0 h0)) 0 0 (zA g) := by
  refine z_enter RX8 rfl (by decide) rfl (Nat.le_of_ble_eq_true rfl) ?_
  intro p e s m args below meth c K harg
  refine z_sub (lv' := [(0, .ref (aD g 0)), (1, .long h0), (3, .int (iZ p0))]) [0, 1, 2] rfl ?_
  have hI0 := hI
  obtain ⟨hB, hL, hV, hT, hH, hX⟩ := hI
  obtain ⟨hMa, hSp⟩ := id hB
  obtain ⟨num, pgs, cc, cn, cp, pn, pm, ⟨hSt, hEx, hNum, hPgs, hCi, hCc, hCn, hCp, hPr, hPc, hPm⟩, hR⟩ := id hL
  obtain ⟨vb, vt, vf, lt, lo, ⟨hVw, hVb, hVt, hVf, hLe, hLo⟩, hVR⟩ := id hV
  obtain ⟨tc, np, tp, hTr, hTn, hTp, hnp⟩ := id hT
  obtain ⟨cur, stp, pl, px, hTx, hXc, hXl, hXp, hpx⟩ := id hX
  obtain ⟨old, hHi, hHs, hho, -, -⟩ := id hH
  obtain ⟨hw, hk, hpst, hty, htxr, hrtx, hrp, hcap⟩ := id hP
  have hn := hw.n
  have hnx := hw.nx
  have hbp := hw.bp
  have hp9 : 0 ≤ p0 ∧ p0 < f 1 := hpp
  refine z_lload_n 1 K dX8_mixedWithExhibit_0 rfl rfl 1 rfl ?_
  refine z_lstore (lv' := [(4, .long h0), (0, .ref (aD g 0)), (1, .long h0), (3, .int (iZ p0))]) 3 K dX8_mixedWithExhibit_1 rfl (by decide) rfl ?_
  refine z_iconst 4 K dX8_mixedWithExhibit_3 rfl ?_
  refine z_istore (lv' := [(6, .int (iZ 0)), (4, .long h0), (0, .ref (aD g 0)), (1, .long h0), (3, .int (iZ p0))]) 6 K dX8_mixedWithExhibit_4 rfl (by decide) rfl ?_
  have loop_6 : ∀ (n9 : Nat) (h1 : Int64) (w : Int), (0 ≤ w ∧ w ≤ 6) → (h1 = zit (fun w h => dV h (sOfE f p0 w)) w h0) → (6 - w < (n9 : Int)) → Z p l e (({ frames := 4, cells := 0, slots := 0, locals := 100 } : Room)) s m args below meth c (MQ below (zQl g (fun z C' => IW g C' f k past ty tx ∧ zSame C C' ∧ z = sDe f p0 h0)) args s 0 0 (zA g)) g 7 0 0 (C) [(0, .ref (aD g 0)), (3, .int (iZ p0)), (4, .long h1), (6, .int (iZ w))] 6 [] := by
    intro n9
    induction n9 with
    | zero =>
      intro h1 w hkw hh1 hm9
      exact absurd hm9 (by omega)
    | succ n9 ih9 =>
      intro h1 w hkw hh1 hm_6
      have ih_6 := ih9
      clear ih9
      refine z_iload 8 K dX8_mixedWithExhibit_6 rfl 3 rfl ?_
      refine z_iconst 9 K dX8_mixedWithExhibit_8 rfl ?_
      refine z_icmp_gt (tgt := 33) 12 K dX8_mixedWithExhibit_9 rfl (by decide) (by omega) (by decide) (fun c_9 => ?_) (fun c_9 => ?_)
      · skip
        refine z_lload 35 K dX8_mixedWithExhibit_33 rfl 2 rfl ?_
        refine z_aload_n 36 K dX8_mixedWithExhibit_35 rfl rfl 0 rfl ?_
        refine z_iload_n 37 K dX8_mixedWithExhibit_36 rfl rfl 1 rfl ?_
        refine z_vVi (As := [.int (iZ p0)]) (rest := [.long h1]) 40 K 0 (by decide) hMa rfl rfl (a_X8_table l g _ p0 _ _ _ _ _ _ hI0 hP (by omega) (by unfold kPl; repeat (first | omega | split))) (cwV 1 K.1.2.2.2.2 gX8_mixedWithExhibit_X8_table rfl rfl rfl (by decide +kernel) ⟨Nat.le_of_ble_eq_true rfl, Nat.le_of_ble_eq_true rfl⟩) rfl (Nat.le_of_ble_eq_true rfl) dX8_mixedWithExhibit_37 rfl ⟨Nat.le_of_ble_eq_true rfl, Nat.le_of_ble_eq_true rfl⟩ rfl (fun z_1 C_2 hp_37 => ?_)
        refine z_C hp_37.1 ?_
        refine z_top (sRow f p0) hp_37.2 ?_
        refine z_i2l 41 K dX8_mixedWithExhibit_40 rfl ?_
        refine z_vSl (As := [.long h1, .long ((iZ (sRow f p0)).toInt64)]) (rest := []) 44 K (m_X8_mixed l g _ h1 ((iZ (sRow f p0)).toInt64) ) (va_cwS 2 K.1.2.2.2.2 gX8_mixedWithExhibit_X8_mixed rfl rfl rfl (by decide +kernel) ⟨Nat.le_of_ble_eq_true rfl, Nat.le_of_ble_eq_true rfl⟩) rfl (Nat.le_of_ble_eq_true rfl) dX8_mixedWithExhibit_41 rfl ⟨Nat.le_of_ble_eq_true rfl, Nat.le_of_ble_eq_true rfl⟩ rfl (fun z_3 C_4 hp_41 => ?_)
        refine z_C hp_41.1 ?_
        refine z_topL (31 * h1 + ((iZ (sRow f p0)).toInt64)) hp_41.2 ?_
        refine z_lstore (lv' := [(4, .long (31 * h1 + ((iZ (sRow f p0)).toInt64))), (0, .ref (aD g 0)), (3, .int (iZ p0)), (6, .int (iZ w))]) 46 K dX8_mixedWithExhibit_44 rfl (by decide) rfl ?_
        refine z_lload 48 K dX8_mixedWithExhibit_46 rfl 0 rfl ?_
        refine z_aload_n 49 K dX8_mixedWithExhibit_48 rfl rfl 1 rfl ?_
        refine z_iload_n 50 K dX8_mixedWithExhibit_49 rfl rfl 2 rfl ?_
        refine z_iconst 51 K dX8_mixedWithExhibit_50 rfl ?_
        refine z_vVi (As := [.int (iZ p0), .int (iZ 0)]) (rest := [.long (31 * h1 + ((iZ (sRow f p0)).toInt64))]) 54 K 0 (by decide) hMa rfl rfl (a_X8_ifDropped l g _ p0 0 _ _ _ _ _ _ hI0 hP (by omega) (by omega) (by unfold kIfD; repeat (first | omega | split))) (cwV 2 K.1.2.2.2.2 gX8_mixedWithExhibit_X8_ifDropped rfl rfl rfl (by decide +kernel) ⟨Nat.le_of_ble_eq_true rfl, Nat.le_of_ble_eq_true rfl⟩) rfl (Nat.le_of_ble_eq_true rfl) dX8_mixedWithExhibit_51 rfl ⟨Nat.le_of_ble_eq_true rfl, Nat.le_of_ble_eq_true rfl⟩ rfl (fun z_5 C_6 hp_51 => ?_)
        obtain ⟨hIn_51, hsm_51, hz_51⟩ := hp_51
        refine z_top (sDrp f p0 0) hz_51 ?_
        obtain ⟨⟨gMa_51, gSp_51⟩, ⟨num_51, pgs_51, cc_51, cn_51, cp_51, pn_51, pm_51, ⟨gSt_51, gEx_51, gNum_51, gPgs_51, gCi_51, gCc_51, gCn_51, gCp_51, gPr_51, gPc_51, gPm_51⟩, gR_51⟩, -, -, -, ⟨cur_51, stp_51, pl_51, px_51, gTx_51, gXc_51, -, -, -⟩⟩ := id hIn_51
        refine z_i2l 55 K dX8_mixedWithExhibit_54 rfl ?_
        refine z_vSl (As := [.long (31 * h1 + ((iZ (sRow f p0)).toInt64)), .long ((iZ (sDrp f p0 0)).toInt64)]) (rest := []) 58 K (m_X8_mixed l g _ (31 * h1 + ((iZ (sRow f p0)).toInt64)) ((iZ (sDrp f p0 0)).toInt64) ) (va_cwS 2 K.1.2.2.2.2 gX8_mixedWithExhibit_X8_mixed rfl rfl rfl (by decide +kernel) ⟨Nat.le_of_ble_eq_true rfl, Nat.le_of_ble_eq_true rfl⟩) rfl (Nat.le_of_ble_eq_true rfl) dX8_mixedWithExhibit_55 rfl ⟨Nat.le_of_ble_eq_true rfl, Nat.le_of_ble_eq_true rfl⟩ rfl (fun z_7 C_8 hp_55 => ?_)
        refine z_C hp_55.1 ?_
        refine z_topL (31 * (31 * h1 + ((iZ (sRow f p0)).toInt64)) + ((iZ (sDrp f p0 0)).toInt64)) hp_55.2 ?_
        refine z_lstore (lv' := [(4, .long (31 * (31 * h1 + ((iZ (sRow f p0)).toInt64)) + ((iZ (sDrp f p0 0)).toInt64))), (0, .ref (aD g 0)), (3, .int (iZ p0)), (6, .int (iZ w))]) 60 K dX8_mixedWithExhibit_58 rfl (by decide) rfl ?_
        refine z_lload 62 K dX8_mixedWithExhibit_60 rfl 0 rfl ?_
        refine z_aload_n 63 K dX8_mixedWithExhibit_62 rfl rfl 1 rfl ?_
        refine z_iload_n 64 K dX8_mixedWithExhibit_63 rfl rfl 2 rfl ?_
        refine z_iconst 65 K dX8_mixedWithExhibit_64 rfl ?_
        refine z_vVi (As := [.int (iZ p0), .int (iZ 1)]) (rest := [.long (31 * (31 * h1 + ((iZ (sRow f p0)).toInt64)) + ((iZ (sDrp f p0 0)).toInt64))]) 68 K 0 (by decide) gMa_51 rfl rfl (a_X8_ifDropped l g _ p0 1 _ _ _ _ _ _ hIn_51 hP (by omega) (by omega) (by unfold kIfD; repeat (first | omega | split))) (cwV 2 K.1.2.2.2.2 gX8_mixedWithExhibit_X8_ifDropped rfl rfl rfl (by decide +kernel) ⟨Nat.le_of_ble_eq_true rfl, Nat.le_of_ble_eq_true rfl⟩) rfl (Nat.le_of_ble_eq_true rfl) dX8_mixedWithExhibit_65 rfl ⟨Nat.le_of_ble_eq_true rfl, Nat.le_of_ble_eq_true rfl⟩ rfl (fun z_9 C_10 hp_65 => ?_)
        obtain ⟨hIn_65, hsm_65, hz_65⟩ := hp_65
        refine z_top (sDrp f p0 1) hz_65 ?_
        obtain ⟨⟨gMa_65, gSp_65⟩, ⟨num_65, pgs_65, cc_65, cn_65, cp_65, pn_65, pm_65, ⟨gSt_65, gEx_65, gNum_65, gPgs_65, gCi_65, gCc_65, gCn_65, gCp_65, gPr_65, gPc_65, gPm_65⟩, gR_65⟩, -, -, -, ⟨cur_65, stp_65, pl_65, px_65, gTx_65, gXc_65, -, -, -⟩⟩ := id hIn_65
        refine z_i2l 69 K dX8_mixedWithExhibit_68 rfl ?_
        refine z_vSl (As := [.long (31 * (31 * h1 + ((iZ (sRow f p0)).toInt64)) + ((iZ (sDrp f p0 0)).toInt64)), .long ((iZ (sDrp f p0 1)).toInt64)]) (rest := []) 72 K (m_X8_mixed l g _ (31 * (31 * h1 + ((iZ (sRow f p0)).toInt64)) + ((iZ (sDrp f p0 0)).toInt64)) ((iZ (sDrp f p0 1)).toInt64) ) (va_cwS 2 K.1.2.2.2.2 gX8_mixedWithExhibit_X8_mixed rfl rfl rfl (by decide +kernel) ⟨Nat.le_of_ble_eq_true rfl, Nat.le_of_ble_eq_true rfl⟩) rfl (Nat.le_of_ble_eq_true rfl) dX8_mixedWithExhibit_69 rfl ⟨Nat.le_of_ble_eq_true rfl, Nat.le_of_ble_eq_true rfl⟩ rfl (fun z_11 C_12 hp_69 => ?_)
        refine z_C hp_69.1 ?_
        refine z_topL (31 * (31 * (31 * h1 + ((iZ (sRow f p0)).toInt64)) + ((iZ (sDrp f p0 0)).toInt64)) + ((iZ (sDrp f p0 1)).toInt64)) hp_69.2 ?_
        refine z_lstore (lv' := [(4, .long (31 * (31 * (31 * h1 + ((iZ (sRow f p0)).toInt64)) + ((iZ (sDrp f p0 0)).toInt64)) + ((iZ (sDrp f p0 1)).toInt64))), (0, .ref (aD g 0)), (3, .int (iZ p0)), (6, .int (iZ w))]) 74 K dX8_mixedWithExhibit_72 rfl (by decide) rfl ?_
        refine z_lload 76 K dX8_mixedWithExhibit_74 rfl 0 rfl ?_
        refine z_aload_n 77 K dX8_mixedWithExhibit_76 rfl rfl 1 rfl ?_
        refine z_iload_n 78 K dX8_mixedWithExhibit_77 rfl rfl 2 rfl ?_
        refine z_vVi (As := [.int (iZ p0)]) (rest := [.long (31 * (31 * (31 * h1 + ((iZ (sRow f p0)).toInt64)) + ((iZ (sDrp f p0 0)).toInt64)) + ((iZ (sDrp f p0 1)).toInt64))]) 81 K 0 (by decide) gMa_65 rfl rfl (a_X8_bestMove l g _ p0 _ _ _ _ _ _ hIn_65 hP (by omega) (by unfold kPl; repeat (first | omega | split))) (cwV 1 K.1.2.2.2.2 gX8_mixedWithExhibit_X8_bestMove rfl rfl rfl (by decide +kernel) ⟨Nat.le_of_ble_eq_true rfl, Nat.le_of_ble_eq_true rfl⟩) rfl (Nat.le_of_ble_eq_true rfl) dX8_mixedWithExhibit_78 rfl ⟨Nat.le_of_ble_eq_true rfl, Nat.le_of_ble_eq_true rfl⟩ rfl (fun z_13 C_14 hp_78 => ?_)
        obtain ⟨hIn_78, hsm_78, hz_78⟩ := hp_78
        refine z_top (sBest f p0) hz_78 ?_
        obtain ⟨⟨gMa_78, gSp_78⟩, ⟨num_78, pgs_78, cc_78, cn_78, cp_78, pn_78, pm_78, ⟨gSt_78, gEx_78, gNum_78, gPgs_78, gCi_78, gCc_78, gCn_78, gCp_78, gPr_78, gPc_78, gPm_78⟩, gR_78⟩, -, -, -, ⟨cur_78, stp_78, pl_78, px_78, gTx_78, gXc_78, -, -, -⟩⟩ := id hIn_78
        refine z_i2l 82 K dX8_mixedWithExhibit_81 rfl ?_
        refine z_vSl (As := [.long (31 * (31 * (31 * h1 + ((iZ (sRow f p0)).toInt64)) + ((iZ (sDrp f p0 0)).toInt64)) + ((iZ (sDrp f p0 1)).toInt64)), .long ((iZ (sBest f p0)).toInt64)]) (rest := []) 85 K (m_X8_mixed l g _ (31 * (31 * (31 * h1 + ((iZ (sRow f p0)).toInt64)) + ((iZ (sDrp f p0 0)).toInt64)) + ((iZ (sDrp f p0 1)).toInt64)) ((iZ (sBest f p0)).toInt64) ) (va_cwS 2 K.1.2.2.2.2 gX8_mixedWithExhibit_X8_mixed rfl rfl rfl (by decide +kernel) ⟨Nat.le_of_ble_eq_true rfl, Nat.le_of_ble_eq_true rfl⟩) rfl (Nat.le_of_ble_eq_true rfl) dX8_mixedWithExhibit_82 rfl ⟨Nat.le_of_ble_eq_true rfl, Nat.le_of_ble_eq_true rfl⟩ rfl (fun z_15 C_16 hp_82 => ?_)
        refine z_C hp_82.1 ?_
        refine z_topL (31 * (31 * (31 * (31 * h1 + ((iZ (sRow f p0)).toInt64)) + ((iZ (sDrp f p0 0)).toInt64)) + ((iZ (sDrp f p0 1)).toInt64)) + ((iZ (sBest f p0)).toInt64)) hp_82.2 ?_
        exact z_lret K rfl dX8_mixedWithExhibit_85 ⟨hIn_78, zSame_tr (zSame_tr hsm_51 hsm_65) hsm_78, by unfold sDe; rw [show (6 : Int) = w by omega, ← hh1]; rfl⟩
      · skip
        refine z_lload 14 K dX8_mixedWithExhibit_12 rfl 2 rfl ?_
        refine z_aload_n 15 K dX8_mixedWithExhibit_14 rfl rfl 0 rfl ?_
        refine z_iload_n 16 K dX8_mixedWithExhibit_15 rfl rfl 1 rfl ?_
        refine z_iload 18 K dX8_mixedWithExhibit_16 rfl 3 rfl ?_
        refine z_vVi (As := [.int (iZ p0), .int (iZ w)]) (rest := [.long h1]) 21 K 0 (by decide) hMa rfl rfl (a_X8_exhibit l g _ p0 w _ _ _ _ _ _ hI0 hP (by omega) (by omega) (by unfold kExh; repeat (first | omega | split))) (cwV 2 K.1.2.2.2.2 gX8_mixedWithExhibit_X8_exhibit rfl rfl rfl (by decide +kernel) ⟨Nat.le_of_ble_eq_true rfl, Nat.le_of_ble_eq_true rfl⟩) rfl (Nat.le_of_ble_eq_true rfl) dX8_mixedWithExhibit_18 rfl ⟨Nat.le_of_ble_eq_true rfl, Nat.le_of_ble_eq_true rfl⟩ rfl (fun z_17 C_18 hp_18 => ?_)
        refine z_C hp_18.1 ?_
        refine z_top (if p0 < f 1 then sOfE f p0 w else -1) hp_18.2 ?_
        refine z_top (sOfE f p0 w) (if_pos (by omega)) ?_
        refine z_i2l 22 K dX8_mixedWithExhibit_21 rfl ?_
        refine z_vSl (As := [.long h1, .long ((iZ (sOfE f p0 w)).toInt64)]) (rest := []) 25 K (m_X8_mixed l g _ h1 ((iZ (sOfE f p0 w)).toInt64) ) (va_cwS 2 K.1.2.2.2.2 gX8_mixedWithExhibit_X8_mixed rfl rfl rfl (by decide +kernel) ⟨Nat.le_of_ble_eq_true rfl, Nat.le_of_ble_eq_true rfl⟩) rfl (Nat.le_of_ble_eq_true rfl) dX8_mixedWithExhibit_22 rfl ⟨Nat.le_of_ble_eq_true rfl, Nat.le_of_ble_eq_true rfl⟩ rfl (fun z_19 C_20 hp_22 => ?_)
        refine z_C hp_22.1 ?_
        refine z_topL (31 * h1 + ((iZ (sOfE f p0 w)).toInt64)) hp_22.2 ?_
        refine z_lstore (lv' := [(4, .long (31 * h1 + ((iZ (sOfE f p0 w)).toInt64))), (0, .ref (aD g 0)), (3, .int (iZ p0)), (6, .int (iZ w))]) 27 K dX8_mixedWithExhibit_25 rfl (by decide) rfl ?_
        refine z_iinc (lv' := [(6, .int (iZ (w + 1))), (4, .long (31 * h1 + ((iZ (sOfE f p0 w)).toInt64))), (0, .ref (aD g 0)), (3, .int (iZ p0))]) 30 K dX8_mixedWithExhibit_27 rfl (w + 1) rfl 3 rfl (by decide) rfl ?_
        refine z_goto (tgt := 6) K dX8_mixedWithExhibit_30 (by decide) ?_
        refine z_sub [2, 3, 1, 0] rfl ?_
        exact ih_6 (31 * h1 + ((iZ (sOfE f p0 w)).toInt64)) (w + 1) (by omega) (by rw [zit_1 _ hkw.1, ← hh1]; rfl) (by omega)
  refine z_sub [2, 4, 1, 0] rfl ?_
  exact loop_6 (Int.toNat (6 - 0) + 1) h0 0 (by omega) rfl (by omega)
set_option maxRecDepth 20000 in
theorem hin_X8_mixedWithParagraph_X0 : ∀ w ∈ wsX00, w ∈ wsX8_mixedWithParagraph := by decide +kernel
set_option maxRecDepth 20000 in
theorem hin_X8_mixedWithParagraph_X4 : ∀ w ∈ wsX40, w ∈ wsX8_mixedWithParagraph := by decide +kernel
set_option maxRecDepth 20000 in
theorem hin_X8_mixedWithParagraph_X8 : ∀ w ∈ wsX80, w ∈ wsX8_mixedWithParagraph := by decide +kernel
set_option maxHeartbeats 4000000 in
set_option maxRecDepth 100000 in
theorem a_X8_mixedWithParagraph (l : Launch) (g : zG) (C : Nat → va_E) (h0 : Int64) (a : Int) (f : Int → Int) (past : Int → Int) (tx : Int → Int) (k : Int) (ty : Int) (cap : Int) (hI : IW g C f k past ty tx) (hP : PW cap f k past ty tx) (h_a : -2147483648 ≤ a ∧ a < 2147483648) (hpp : 0 ≤ a ∧ a < 12) : Met l yX8_mixedWithParagraph wsX8_mixedWithParagraph ({ frames := 3, cells := 0, slots := 0, locals := 72 } : Room) (zPre g C [.ref (aD g 0), .long h0, .int (iZ a)]) (zQl g (fun z C' => C' = C ∧ z = sDp f a h0)) 0 0 (zA g) := by
  refine z_enter RX8 rfl (by decide) rfl (Nat.le_of_ble_eq_true rfl) ?_
  intro p e s m args below meth c K harg
  refine z_sub (lv' := [(0, .ref (aD g 0)), (1, .long h0), (3, .int (iZ a))]) [0, 1, 2] rfl ?_
  have hI0 := hI
  obtain ⟨hB, hL, hV, hT, hH, hX⟩ := hI
  obtain ⟨hMa, hSp⟩ := id hB
  obtain ⟨num, pgs, cc, cn, cp, pn, pm, ⟨hSt, hEx, hNum, hPgs, hCi, hCc, hCn, hCp, hPr, hPc, hPm⟩, hR⟩ := id hL
  obtain ⟨vb, vt, vf, lt, lo, ⟨hVw, hVb, hVt, hVf, hLe, hLo⟩, hVR⟩ := id hV
  obtain ⟨tc, np, tp, hTr, hTn, hTp, hnp⟩ := id hT
  obtain ⟨cur, stp, pl, px, hTx, hXc, hXl, hXp, hpx⟩ := id hX
  obtain ⟨old, hHi, hHs, hho, -, -⟩ := id hH
  obtain ⟨hw, hk, hpst, hty, htxr, hrtx, hrp, hcap⟩ := id hP
  have hn := hw.n
  have hnx := hw.nx
  have hbp := hw.bp
  have hpa := hw.pa a (by omega) (by omega)
  have hca := hR.pa a (by omega) (by omega)
  refine z_lload_n 1 K dX8_mixedWithParagraph_0 rfl rfl 1 rfl ?_
  refine z_lstore (lv' := [(4, .long h0), (0, .ref (aD g 0)), (1, .long h0), (3, .int (iZ a))]) 3 K dX8_mixedWithParagraph_1 rfl (by decide) rfl ?_
  refine z_iconst 4 K dX8_mixedWithParagraph_3 rfl ?_
  refine z_istore (lv' := [(6, .int (iZ 0)), (4, .long h0), (0, .ref (aD g 0)), (1, .long h0), (3, .int (iZ a))]) 6 K dX8_mixedWithParagraph_4 rfl (by decide) rfl ?_
  have loop_6 : ∀ (n9 : Nat) (h1 : Int64) (w : Int), (0 ≤ w ∧ w ≤ 4) → (h1 = zit (fun w h => dV h (sOfP f a w)) w h0) → (4 - w < (n9 : Int)) → Z p l e (({ frames := 3, cells := 0, slots := 0, locals := 72 } : Room)) s m args below meth c (MQ below (zQl g (fun z C' => C' = C ∧ z = sDp f a h0)) args s 0 0 (zA g)) g 8 0 0 (C) [(0, .ref (aD g 0)), (3, .int (iZ a)), (4, .long h1), (6, .int (iZ w))] 6 [] := by
    intro n9
    induction n9 with
    | zero =>
      intro h1 w hkw hh1 hm9
      exact absurd hm9 (by omega)
    | succ n9 ih9 =>
      intro h1 w hkw hh1 hm_6
      have ih_6 := ih9
      clear ih9
      refine z_iload 8 K dX8_mixedWithParagraph_6 rfl 3 rfl ?_
      refine z_iconst 9 K dX8_mixedWithParagraph_8 rfl ?_
      refine z_icmp_gt (tgt := 33) 12 K dX8_mixedWithParagraph_9 rfl (by decide) (by omega) (by decide) (fun c_9 => ?_) (fun c_9 => ?_)
      · skip
        refine z_iconst 34 K dX8_mixedWithParagraph_33 rfl ?_
        refine z_istore (lv' := [(6, .int (iZ 0)), (0, .ref (aD g 0)), (3, .int (iZ a)), (4, .long h1)]) 36 K dX8_mixedWithParagraph_34 rfl (by decide) rfl ?_
        have loop_36 : ∀ (n9 : Nat) (h2 : Int64) (b9 : Int), (0 ≤ b9 ∧ b9 ≤ f (32 * a + 65)) → (h2 = zit (fun b h => zit (fun w h => dV h (sOfC f a b w)) 5 h) b9 h1) → (f (32 * a + 65) - b9 < (n9 : Int)) → Z p l e (({ frames := 3, cells := 0, slots := 0, locals := 72 } : Room)) s m args below meth c (MQ below (zQl g (fun z C' => C' = C ∧ z = sDp f a h0)) args s 0 0 (zA g)) g 8 0 0 (C) [(0, .ref (aD g 0)), (3, .int (iZ a)), (4, .long h2), (6, .int (iZ b9))] 36 [] := by
          intro n9
          induction n9 with
          | zero =>
            intro h2 b9 hkb hh2 hm9
            exact absurd hm9 (by omega)
          | succ n9 ih9 =>
            intro h2 b9 hkb hh2 hm_36
            have ih_36 := ih9
            clear ih9
            refine z_iload 38 K dX8_mixedWithParagraph_36 rfl 3 rfl ?_
            refine z_aload_n 39 K dX8_mixedWithParagraph_38 rfl rfl 0 rfl ?_
            refine z_get 42 K hin_X8_mixedWithParagraph_X8 0 (by decide) hMa rfl 0 (by decide) (by decide +kernel : Cond.fieldLink RX8 12 "BriefBuilder" "state" "LBriefBuilder$State;" ∈ wsX8_mixedWithParagraph) (fun _ h9 => h9) rfl dX8_mixedWithParagraph_39 rfl ?_
            refine z_get 45 K hin_X8_mixedWithParagraph_X4 1 (by decide) hSt rfl 1 (by decide) (by decide +kernel : Cond.fieldLink RX8 111 "BriefBuilder$State" "citations" "LBriefBuilder$Citations;" ∈ wsX8_mixedWithParagraph) (fun _ h9 => h9) rfl dX8_mixedWithParagraph_42 rfl ?_
            refine z_get 48 K hin_X8_mixedWithParagraph_X0 5 (by decide) hCi rfl 0 (by decide) (by decide +kernel : Cond.fieldLink RX8 131 "BriefBuilder$Citations" "counts" "[I" ∈ wsX8_mixedWithParagraph) (fun _ h9 => h9) rfl dX8_mixedWithParagraph_45 rfl ?_
            refine z_iload_n 49 K dX8_mixedWithParagraph_48 rfl rfl 1 rfl ?_
            refine z_iald (f := cc) 50 K 6 (by decide) hCc (by omega) (by omega) (by decide) dX8_mixedWithParagraph_49 rfl ?_
            refine z_top (f (32 * a + 65)) hca.1 ?_
            refine z_icmp_ge (tgt := 91) 53 K dX8_mixedWithParagraph_50 rfl (by decide) (by omega) (by omega) (fun c_50 => ?_) (fun c_50 => ?_)
            · skip
              refine z_lload 93 K dX8_mixedWithParagraph_91 rfl 2 rfl ?_
              exact z_lret K rfl dX8_mixedWithParagraph_93 ⟨rfl, by unfold sDp; rw [show (4 : Int) = w by omega, ← hh1]; have q5 := zit_5 (fun b w h => dV h (sOfC f a b w)) h1 (f (32 * a + 65)).toNat; rw [Int.toNat_of_nonneg hpa.1] at q5; rw [q5, show f (32 * a + 65) = b9 by omega, ← hh2]⟩
            · skip
              refine z_iconst 54 K dX8_mixedWithParagraph_53 rfl ?_
              refine z_istore (lv' := [(7, .int (iZ 0)), (0, .ref (aD g 0)), (3, .int (iZ a)), (4, .long h2), (6, .int (iZ b9))]) 56 K dX8_mixedWithParagraph_54 rfl (by decide) rfl ?_
              have loop_56 : ∀ (n9 : Nat) (h3 : Int64) (w9 : Int), (0 ≤ w9 ∧ w9 ≤ 5) → (h3 = zit (fun w h => dV h (sOfC f a b9 w)) w9 h2) → (5 - w9 < (n9 : Int)) → Z p l e (({ frames := 3, cells := 0, slots := 0, locals := 72 } : Room)) s m args below meth c (MQ below (zQl g (fun z C' => C' = C ∧ z = sDp f a h0)) args s 0 0 (zA g)) g 8 0 0 (C) [(0, .ref (aD g 0)), (3, .int (iZ a)), (4, .long h3), (6, .int (iZ b9)), (7, .int (iZ w9))] 56 [] := by
                intro n9
                induction n9 with
                | zero =>
                  intro h3 w9 hkw9 hh3 hm9
                  exact absurd hm9 (by omega)
                | succ n9 ih9 =>
                  intro h3 w9 hkw9 hh3 hm_56
                  have ih_56 := ih9
                  clear ih9
                  refine z_iload 58 K dX8_mixedWithParagraph_56 rfl 4 rfl ?_
                  refine z_iconst 59 K dX8_mixedWithParagraph_58 rfl ?_
                  refine z_icmp_gt (tgt := 85) 62 K dX8_mixedWithParagraph_59 rfl (by decide) (by omega) (by decide) (fun c_59 => ?_) (fun c_59 => ?_)
                  · skip
                    refine z_iinc (lv' := [(6, .int (iZ (b9 + 1))), (0, .ref (aD g 0)), (3, .int (iZ a)), (4, .long h3), (7, .int (iZ w9))]) 88 K dX8_mixedWithParagraph_85 rfl (b9 + 1) rfl 3 rfl (by decide) rfl ?_
                    refine z_goto (tgt := 36) K dX8_mixedWithParagraph_88 (by decide) ?_
                    refine z_sub [1, 2, 3, 0] rfl ?_
                    exact ih_36 h3 (b9 + 1) (by omega) (by rw [zit_1 _ hkb.1, ← hh2, show (5 : Int) = w9 by omega, ← hh3]) (by omega)
                  · skip
                    refine z_lload 64 K dX8_mixedWithParagraph_62 rfl 2 rfl ?_
                    refine z_aload_n 65 K dX8_mixedWithParagraph_64 rfl rfl 0 rfl ?_
                    refine z_iload_n 66 K dX8_mixedWithParagraph_65 rfl rfl 1 rfl ?_
                    refine z_iload 68 K dX8_mixedWithParagraph_66 rfl 3 rfl ?_
                    refine z_iload 70 K dX8_mixedWithParagraph_68 rfl 4 rfl ?_
                    refine z_vVi (As := [.int (iZ a), .int (iZ b9), .int (iZ w9)]) (rest := [.long h3]) 73 K 0 (by decide) hMa rfl rfl (a_X8_citation l g _ a b9 w9 _ _ _ _ _ _ hI0 hP (by omega) (by omega) (by omega) (by unfold kCtn; repeat (first | omega | split))) (cwV 3 K.1.2.2.2.2 gX8_mixedWithParagraph_X8_citation rfl rfl rfl (by decide +kernel) ⟨Nat.le_of_ble_eq_true rfl, Nat.le_of_ble_eq_true rfl⟩) rfl (Nat.le_of_ble_eq_true rfl) dX8_mixedWithParagraph_70 rfl ⟨Nat.le_of_ble_eq_true rfl, Nat.le_of_ble_eq_true rfl⟩ rfl (fun z_1 C_2 hp_70 => ?_)
                    refine z_C hp_70.1 ?_
                    refine z_top (if b9 < f (32 * a + 65) then sOfC f a b9 w9 else -1) hp_70.2 ?_
                    refine z_top (sOfC f a b9 w9) (if_pos (by omega)) ?_
                    refine z_i2l 74 K dX8_mixedWithParagraph_73 rfl ?_
                    refine z_vSl (As := [.long h3, .long ((iZ (sOfC f a b9 w9)).toInt64)]) (rest := []) 77 K (m_X8_mixed l g _ h3 ((iZ (sOfC f a b9 w9)).toInt64) ) (va_cwS 2 K.1.2.2.2.2 gX8_mixedWithParagraph_X8_mixed rfl rfl rfl (by decide +kernel) ⟨Nat.le_of_ble_eq_true rfl, Nat.le_of_ble_eq_true rfl⟩) rfl (Nat.le_of_ble_eq_true rfl) dX8_mixedWithParagraph_74 rfl ⟨Nat.le_of_ble_eq_true rfl, Nat.le_of_ble_eq_true rfl⟩ rfl (fun z_3 C_4 hp_74 => ?_)
                    refine z_C hp_74.1 ?_
                    refine z_topL (31 * h3 + ((iZ (sOfC f a b9 w9)).toInt64)) hp_74.2 ?_
                    refine z_lstore (lv' := [(4, .long (31 * h3 + ((iZ (sOfC f a b9 w9)).toInt64))), (0, .ref (aD g 0)), (3, .int (iZ a)), (6, .int (iZ b9)), (7, .int (iZ w9))]) 79 K dX8_mixedWithParagraph_77 rfl (by decide) rfl ?_
                    refine z_iinc (lv' := [(7, .int (iZ (w9 + 1))), (4, .long (31 * h3 + ((iZ (sOfC f a b9 w9)).toInt64))), (0, .ref (aD g 0)), (3, .int (iZ a)), (6, .int (iZ b9))]) 82 K dX8_mixedWithParagraph_79 rfl (w9 + 1) rfl 4 rfl (by decide) rfl ?_
                    refine z_goto (tgt := 56) K dX8_mixedWithParagraph_82 (by decide) ?_
                    refine z_sub [2, 3, 1, 4, 0] rfl ?_
                    exact ih_56 (31 * h3 + ((iZ (sOfC f a b9 w9)).toInt64)) (w9 + 1) (by omega) (by rw [zit_1 _ hkw9.1, ← hh3]; rfl) (by omega)
              refine z_sub [1, 2, 3, 4, 0] rfl ?_
              exact loop_56 (Int.toNat (5 - 0) + 1) h2 0 (by omega) rfl (by omega)
        refine z_sub [1, 2, 3, 0] rfl ?_
        exact loop_36 (Int.toNat (f (32 * a + 65) - 0) + 1) h1 0 (by omega) rfl (by omega)
      · skip
        refine z_lload 14 K dX8_mixedWithParagraph_12 rfl 2 rfl ?_
        refine z_aload_n 15 K dX8_mixedWithParagraph_14 rfl rfl 0 rfl ?_
        refine z_iload_n 16 K dX8_mixedWithParagraph_15 rfl rfl 1 rfl ?_
        refine z_iload 18 K dX8_mixedWithParagraph_16 rfl 3 rfl ?_
        refine z_vVi (As := [.int (iZ a), .int (iZ w)]) (rest := [.long h1]) 21 K 0 (by decide) hMa rfl rfl (a_X8_paragraph l g _ a w _ _ _ _ _ _ hI0 hP (by omega) (by omega) (by unfold kPrg; repeat (first | omega | split))) (cwV 2 K.1.2.2.2.2 gX8_mixedWithParagraph_X8_paragraph rfl rfl rfl (by decide +kernel) ⟨Nat.le_of_ble_eq_true rfl, Nat.le_of_ble_eq_true rfl⟩) rfl (Nat.le_of_ble_eq_true rfl) dX8_mixedWithParagraph_18 rfl ⟨Nat.le_of_ble_eq_true rfl, Nat.le_of_ble_eq_true rfl⟩ rfl (fun z_5 C_6 hp_18 => ?_)
        refine z_C hp_18.1 ?_
        refine z_top (sOfP f a w) hp_18.2 ?_
        refine z_i2l 22 K dX8_mixedWithParagraph_21 rfl ?_
        refine z_vSl (As := [.long h1, .long ((iZ (sOfP f a w)).toInt64)]) (rest := []) 25 K (m_X8_mixed l g _ h1 ((iZ (sOfP f a w)).toInt64) ) (va_cwS 2 K.1.2.2.2.2 gX8_mixedWithParagraph_X8_mixed rfl rfl rfl (by decide +kernel) ⟨Nat.le_of_ble_eq_true rfl, Nat.le_of_ble_eq_true rfl⟩) rfl (Nat.le_of_ble_eq_true rfl) dX8_mixedWithParagraph_22 rfl ⟨Nat.le_of_ble_eq_true rfl, Nat.le_of_ble_eq_true rfl⟩ rfl (fun z_7 C_8 hp_22 => ?_)
        refine z_C hp_22.1 ?_
        refine z_topL (31 * h1 + ((iZ (sOfP f a w)).toInt64)) hp_22.2 ?_
        refine z_lstore (lv' := [(4, .long (31 * h1 + ((iZ (sOfP f a w)).toInt64))), (0, .ref (aD g 0)), (3, .int (iZ a)), (6, .int (iZ w))]) 27 K dX8_mixedWithParagraph_25 rfl (by decide) rfl ?_
        refine z_iinc (lv' := [(6, .int (iZ (w + 1))), (4, .long (31 * h1 + ((iZ (sOfP f a w)).toInt64))), (0, .ref (aD g 0)), (3, .int (iZ a))]) 30 K dX8_mixedWithParagraph_27 rfl (w + 1) rfl 3 rfl (by decide) rfl ?_
        refine z_goto (tgt := 6) K dX8_mixedWithParagraph_30 (by decide) ?_
        refine z_sub [2, 3, 1, 0] rfl ?_
        exact ih_6 (31 * h1 + ((iZ (sOfP f a w)).toInt64)) (w + 1) (by omega) (by rw [zit_1 _ hkw.1, ← hh1]; rfl) (by omega)
  refine z_sub [2, 4, 1, 0] rfl ?_
  exact loop_6 (Int.toNat (4 - 0) + 1) h0 0 (by omega) rfl (by omega)
set_option maxRecDepth 20000 in
theorem hin_X8_digest_X1 : ∀ w ∈ wsX10, w ∈ wsX8_digest := by decide +kernel
set_option maxRecDepth 20000 in
theorem hin_X8_digest_X4 : ∀ w ∈ wsX40, w ∈ wsX8_digest := by decide +kernel
set_option maxRecDepth 20000 in
theorem hin_X8_digest_X5 : ∀ w ∈ wsX50, w ∈ wsX8_digest := by decide +kernel
set_option maxRecDepth 20000 in
theorem hin_X8_digest_X8 : ∀ w ∈ wsX80, w ∈ wsX8_digest := by decide +kernel
set_option maxHeartbeats 4000000 in
set_option maxRecDepth 100000 in
theorem a_X8_digest (l : Launch) (g : zG) (C : Nat → va_E) (f : Int → Int) (past : Int → Int) (tx : Int → Int) (k : Int) (ty : Int) (cap : Int) (hI : IW g C f k past ty tx) (hP : PW cap f k past ty tx) : Met l yX8_digest wsX8_digest ({ frames := 5, cells := 0, slots := 0, locals := 126 } : Room) (zPre g C [.ref (aD g 0)]) (zQl g (fun z C' => IW g C' f k past ty tx ∧ zSame C C' ∧ z = sDig f k ty tx)) 0 0 (zA g) := by
  refine z_enter RX8 rfl (by decide) rfl (Nat.le_of_ble_eq_true rfl) ?_
  intro p e s m args below meth c K harg
  refine z_sub (lv' := [(0, .ref (aD g 0))]) [0] rfl ?_
  have hI0 := hI
  obtain ⟨hB, hL, hV, hT, hH, hX⟩ := hI
  obtain ⟨hMa, hSp⟩ := id hB
  obtain ⟨num, pgs, cc, cn, cp, pn, pm, ⟨hSt, hEx, hNum, hPgs, hCi, hCc, hCn, hCp, hPr, hPc, hPm⟩, hR⟩ := id hL
  obtain ⟨vb, vt, vf, lt, lo, ⟨hVw, hVb, hVt, hVf, hLe, hLo⟩, hVR⟩ := id hV
  obtain ⟨tc, np, tp, hTr, hTn, hTp, hnp⟩ := id hT
  obtain ⟨cur, stp, pl, px, hTx, hXc, hXl, hXp, hpx⟩ := id hX
  obtain ⟨old, hHi, hHs, hho, -, -⟩ := id hH
  obtain ⟨hw, hk, hpst, hty, htxr, hrtx, hrp, hcap⟩ := id hP
  have hn := hw.n
  have hnx := hw.nx
  have hbp := hw.bp
  refine z_ldc2l 3 K (3137) (by decide +kernel : Cond.constantLong RX8 283 (3137) ∈ wsX8_digest) dX8_digest_0 rfl ?_
  refine z_lstore_n (lv' := [(1, .long (3137)), (0, .ref (aD g 0))]) 4 K dX8_digest_3 rfl rfl (by decide) rfl ?_
  refine z_iconst 5 K dX8_digest_4 rfl ?_
  refine z_istore_n (lv' := [(3, .int (iZ 0)), (1, .long (3137)), (0, .ref (aD g 0))]) 6 K dX8_digest_5 rfl rfl (by decide) rfl ?_
  have loop_6 : ∀ (n9 : Nat) (h1 : Int64) (w : Int), (0 ≤ w ∧ w ≤ 9) → (h1 = zit (fun w h => dV h (sCnt f k w)) w 3137) → (9 - w < (n9 : Int)) → Z p l e (({ frames := 5, cells := 0, slots := 0, locals := 126 } : Room)) s m args below meth c (MQ below (zQl g (fun z C' => IW g C' f k past ty tx ∧ zSame C C' ∧ z = sDig f k ty tx)) args s 0 0 (zA g)) g 4 0 0 (C) [(0, .ref (aD g 0)), (1, .long h1), (3, .int (iZ w))] 6 [] := by
    intro n9
    induction n9 with
    | zero =>
      intro h1 w hkw hh1 hm9
      exact absurd hm9 (by omega)
    | succ n9 ih9 =>
      intro h1 w hkw hh1 hm_6
      have ih_6 := ih9
      clear ih9
      refine z_iload_n 7 K dX8_digest_6 rfl rfl 2 rfl ?_
      refine z_bipush 9 K dX8_digest_7 rfl rfl ?_
      refine z_icmp_gt (tgt := 29) 12 K dX8_digest_9 rfl (by decide) (by omega) (by decide) (fun c_9 => ?_) (fun c_9 => ?_)
      · skip
        refine z_iconst 30 K dX8_digest_29 rfl ?_
        refine z_istore_n (lv' := [(3, .int (iZ 0)), (0, .ref (aD g 0)), (1, .long h1)]) 31 K dX8_digest_30 rfl rfl (by decide) rfl ?_
        have loop_31 : ∀ (n9 : Nat) (C9 : Nat → va_E) (h2 : Int64) (p9 : Int), (IW g C9 f k past ty tx) → (zSame C C9) → (0 ≤ p9 ∧ p9 ≤ f 1) → (h2 = zit (fun p h => sDe f p h) p9 (sD1 f k)) → (f 1 - p9 < (n9 : Int)) → Z p l e (({ frames := 5, cells := 0, slots := 0, locals := 126 } : Room)) s m args below meth c (MQ below (zQl g (fun z C' => IW g C' f k past ty tx ∧ zSame C C' ∧ z = sDig f k ty tx)) args s 0 0 (zA g)) g 4 0 0 (C9) [(0, .ref (aD g 0)), (1, .long h2), (3, .int (iZ p9))] 31 [] := by
          intro n9
          induction n9 with
          | zero =>
            intro C9 h2 p9 hI9 hs9 hkp hh2 hm9
            exact absurd hm9 (by omega)
          | succ n9 ih9 =>
            intro C9 h2 p9 hI9 hs9 hkp hh2 hm_31
            have ih_31 := ih9
            clear ih9
            obtain ⟨⟨gMa_9, gSp_9⟩, ⟨num_9, pgs_9, cc_9, cn_9, cp_9, pn_9, pm_9, ⟨gSt_9, gEx_9, gNum_9, gPgs_9, gCi_9, gCc_9, gCn_9, gCp_9, gPr_9, gPc_9, gPm_9⟩, gR_9⟩, -, -, -, ⟨cur_9, stp_9, pl_9, px_9, gTx_9, gXc_9, -, -, -⟩⟩ := id hI9
            refine z_iload_n 32 K dX8_digest_31 rfl rfl 2 rfl ?_
            refine z_aload_n 33 K dX8_digest_32 rfl rfl 0 rfl ?_
            refine z_get 36 K hin_X8_digest_X8 0 (by decide) gMa_9 rfl 0 (by decide) (by decide +kernel : Cond.fieldLink RX8 12 "BriefBuilder" "state" "LBriefBuilder$State;" ∈ wsX8_digest) (fun _ h9 => h9) rfl dX8_digest_33 rfl ?_
            refine z_get 39 K hin_X8_digest_X4 1 (by decide) gSt_9 rfl 0 (by decide) (by decide +kernel : Cond.fieldLink RX8 48 "BriefBuilder$State" "exhibits" "LBriefBuilder$Exhibits;" ∈ wsX8_digest) (fun _ h9 => h9) rfl dX8_digest_36 rfl ?_
            refine z_get 42 K hin_X8_digest_X1 2 (by decide) gEx_9 rfl 2 (by decide) (by decide +kernel : Cond.fieldLink RX8 95 "BriefBuilder$Exhibits" "count" "I" ∈ wsX8_digest) (fun _ h9 => h9) rfl dX8_digest_39 rfl ?_
            refine z_icmp_ge (tgt := 58) 45 K dX8_digest_42 rfl (by decide) (by omega) (by omega) (fun c_42 => ?_) (fun c_42 => ?_)
            · skip
              refine z_iconst 59 K dX8_digest_58 rfl ?_
              refine z_istore_n (lv' := [(3, .int (iZ 0)), (0, .ref (aD g 0)), (1, .long h2)]) 60 K dX8_digest_59 rfl rfl (by decide) rfl ?_
              have loop_60 : ∀ (n9 : Nat) (h4 : Int64) (a : Int), (0 ≤ a ∧ a ≤ 12) → (h4 = zit (fun a h => sDp f a h) a (sD2 f k)) → (12 - a < (n9 : Int)) → Z p l e (({ frames := 5, cells := 0, slots := 0, locals := 126 } : Room)) s m args below meth c (MQ below (zQl g (fun z C' => IW g C' f k past ty tx ∧ zSame C C' ∧ z = sDig f k ty tx)) args s 0 0 (zA g)) g 4 0 0 (C9) [(0, .ref (aD g 0)), (1, .long h4), (3, .int (iZ a))] 60 [] := by
                intro n9
                induction n9 with
                | zero =>
                  intro h4 a hka hh4 hm9
                  exact absurd hm9 (by omega)
                | succ n9 ih9 =>
                  intro h4 a hka hh4 hm_60
                  have ih_60 := ih9
                  clear ih9
                  refine z_iload_n 61 K dX8_digest_60 rfl rfl 2 rfl ?_
                  refine z_bipush 63 K dX8_digest_61 rfl rfl ?_
                  refine z_icmp_ge (tgt := 79) 66 K dX8_digest_63 rfl (by decide) (by omega) (by decide) (fun c_63 => ?_) (fun c_63 => ?_)
                  · skip
                    refine z_lload_n 80 K dX8_digest_79 rfl rfl 1 rfl ?_
                    refine z_aload_n 81 K dX8_digest_80 rfl rfl 0 rfl ?_
                    refine z_iconst 82 K dX8_digest_81 rfl ?_
                    refine z_iconst 83 K dX8_digest_82 rfl ?_
                    refine z_iconst 84 K dX8_digest_83 rfl ?_
                    refine z_vVi (As := [.int (iZ 0), .int (iZ 5), .int (iZ 0)]) (rest := [.long h4]) 87 K 0 (by decide) gMa_9 rfl rfl (a_X8_ifInserted l g _ 0 5 0 _ _ _ _ _ _ hI9 hP (by omega) (by omega) (by omega) (by unfold kIfI; repeat (first | omega | split))) (cwV 3 K.1.2.2.2.2 gX8_digest_X8_ifInserted rfl rfl rfl (by decide +kernel) ⟨Nat.le_of_ble_eq_true rfl, Nat.le_of_ble_eq_true rfl⟩) rfl (Nat.le_of_ble_eq_true rfl) dX8_digest_84 rfl ⟨Nat.le_of_ble_eq_true rfl, Nat.le_of_ble_eq_true rfl⟩ rfl (fun z_1 C_2 hp_84 => ?_)
                    obtain ⟨hIn_84, hsm_84, hz_84⟩ := hp_84
                    refine z_top (sIns f 0 5 0) hz_84 ?_
                    obtain ⟨⟨gMa_84, gSp_84⟩, ⟨num_84, pgs_84, cc_84, cn_84, cp_84, pn_84, pm_84, ⟨gSt_84, gEx_84, gNum_84, gPgs_84, gCi_84, gCc_84, gCn_84, gCp_84, gPr_84, gPc_84, gPm_84⟩, gR_84⟩, -, -, -, ⟨cur_84, stp_84, pl_84, px_84, gTx_84, gXc_84, -, -, -⟩⟩ := id hIn_84
                    refine z_i2l 88 K dX8_digest_87 rfl ?_
                    refine z_vSl (As := [.long h4, .long ((iZ (sIns f 0 5 0)).toInt64)]) (rest := []) 91 K (m_X8_mixed l g _ h4 ((iZ (sIns f 0 5 0)).toInt64) ) (va_cwS 2 K.1.2.2.2.2 gX8_digest_X8_mixed rfl rfl rfl (by decide +kernel) ⟨Nat.le_of_ble_eq_true rfl, Nat.le_of_ble_eq_true rfl⟩) rfl (Nat.le_of_ble_eq_true rfl) dX8_digest_88 rfl ⟨Nat.le_of_ble_eq_true rfl, Nat.le_of_ble_eq_true rfl⟩ rfl (fun z_3 C_4 hp_88 => ?_)
                    refine z_C hp_88.1 ?_
                    refine z_topL (31 * h4 + ((iZ (sIns f 0 5 0)).toInt64)) hp_88.2 ?_
                    refine z_lstore_n (lv' := [(1, .long (31 * h4 + ((iZ (sIns f 0 5 0)).toInt64))), (0, .ref (aD g 0)), (3, .int (iZ a))]) 92 K dX8_digest_91 rfl rfl (by decide) rfl ?_
                    refine z_lload_n 93 K dX8_digest_92 rfl rfl 0 rfl ?_
                    refine z_aload_n 94 K dX8_digest_93 rfl rfl 1 rfl ?_
                    refine z_iconst 95 K dX8_digest_94 rfl ?_
                    refine z_iconst 96 K dX8_digest_95 rfl ?_
                    refine z_iconst 97 K dX8_digest_96 rfl ?_
                    refine z_vVi (As := [.int (iZ 0), .int (iZ 5), .int (iZ 1)]) (rest := [.long (31 * h4 + ((iZ (sIns f 0 5 0)).toInt64))]) 100 K 0 (by decide) gMa_84 rfl rfl (a_X8_ifInserted l g _ 0 5 1 _ _ _ _ _ _ hIn_84 hP (by omega) (by omega) (by omega) (by unfold kIfI; repeat (first | omega | split))) (cwV 3 K.1.2.2.2.2 gX8_digest_X8_ifInserted rfl rfl rfl (by decide +kernel) ⟨Nat.le_of_ble_eq_true rfl, Nat.le_of_ble_eq_true rfl⟩) rfl (Nat.le_of_ble_eq_true rfl) dX8_digest_97 rfl ⟨Nat.le_of_ble_eq_true rfl, Nat.le_of_ble_eq_true rfl⟩ rfl (fun z_5 C_6 hp_97 => ?_)
                    obtain ⟨hIn_97, hsm_97, hz_97⟩ := hp_97
                    refine z_top (sIns f 0 5 1) hz_97 ?_
                    obtain ⟨⟨gMa_97, gSp_97⟩, ⟨num_97, pgs_97, cc_97, cn_97, cp_97, pn_97, pm_97, ⟨gSt_97, gEx_97, gNum_97, gPgs_97, gCi_97, gCc_97, gCn_97, gCp_97, gPr_97, gPc_97, gPm_97⟩, gR_97⟩, -, -, -, ⟨cur_97, stp_97, pl_97, px_97, gTx_97, gXc_97, -, -, -⟩⟩ := id hIn_97
                    refine z_i2l 101 K dX8_digest_100 rfl ?_
                    refine z_vSl (As := [.long (31 * h4 + ((iZ (sIns f 0 5 0)).toInt64)), .long ((iZ (sIns f 0 5 1)).toInt64)]) (rest := []) 104 K (m_X8_mixed l g _ (31 * h4 + ((iZ (sIns f 0 5 0)).toInt64)) ((iZ (sIns f 0 5 1)).toInt64) ) (va_cwS 2 K.1.2.2.2.2 gX8_digest_X8_mixed rfl rfl rfl (by decide +kernel) ⟨Nat.le_of_ble_eq_true rfl, Nat.le_of_ble_eq_true rfl⟩) rfl (Nat.le_of_ble_eq_true rfl) dX8_digest_101 rfl ⟨Nat.le_of_ble_eq_true rfl, Nat.le_of_ble_eq_true rfl⟩ rfl (fun z_7 C_8 hp_101 => ?_)
                    refine z_C hp_101.1 ?_
                    refine z_topL (31 * (31 * h4 + ((iZ (sIns f 0 5 0)).toInt64)) + ((iZ (sIns f 0 5 1)).toInt64)) hp_101.2 ?_
                    refine z_lstore_n (lv' := [(1, .long (31 * (31 * h4 + ((iZ (sIns f 0 5 0)).toInt64)) + ((iZ (sIns f 0 5 1)).toInt64))), (0, .ref (aD g 0)), (3, .int (iZ a))]) 105 K dX8_digest_104 rfl rfl (by decide) rfl ?_
                    refine z_lload_n 106 K dX8_digest_105 rfl rfl 0 rfl ?_
                    refine z_aload_n 107 K dX8_digest_106 rfl rfl 1 rfl ?_
                    refine z_iconst 108 K dX8_digest_107 rfl ?_
                    refine z_vVi (As := [.int (iZ 2)]) (rest := [.long (31 * (31 * h4 + ((iZ (sIns f 0 5 0)).toInt64)) + ((iZ (sIns f 0 5 1)).toInt64))]) 111 K 0 (by decide) gMa_97 rfl rfl (a_X8_leastPages l g _ 2 _ _ _ _ _ _ hIn_97 hP (by omega) (by unfold kLea; repeat (first | omega | split))) (cwV 1 K.1.2.2.2.2 gX8_digest_X8_leastPages rfl rfl rfl (by decide +kernel) ⟨Nat.le_of_ble_eq_true rfl, Nat.le_of_ble_eq_true rfl⟩) rfl (Nat.le_of_ble_eq_true rfl) dX8_digest_108 rfl ⟨Nat.le_of_ble_eq_true rfl, Nat.le_of_ble_eq_true rfl⟩ rfl (fun z_9 C_10 hp_108 => ?_)
                    refine z_C hp_108.1 ?_
                    refine z_top (sLeast f 2) hp_108.2 ?_
                    refine z_i2l 112 K dX8_digest_111 rfl ?_
                    refine z_vSl (As := [.long (31 * (31 * h4 + ((iZ (sIns f 0 5 0)).toInt64)) + ((iZ (sIns f 0 5 1)).toInt64)), .long ((iZ (sLeast f 2)).toInt64)]) (rest := []) 115 K (m_X8_mixed l g _ (31 * (31 * h4 + ((iZ (sIns f 0 5 0)).toInt64)) + ((iZ (sIns f 0 5 1)).toInt64)) ((iZ (sLeast f 2)).toInt64) ) (va_cwS 2 K.1.2.2.2.2 gX8_digest_X8_mixed rfl rfl rfl (by decide +kernel) ⟨Nat.le_of_ble_eq_true rfl, Nat.le_of_ble_eq_true rfl⟩) rfl (Nat.le_of_ble_eq_true rfl) dX8_digest_112 rfl ⟨Nat.le_of_ble_eq_true rfl, Nat.le_of_ble_eq_true rfl⟩ rfl (fun z_11 C_12 hp_112 => ?_)
                    refine z_C hp_112.1 ?_
                    refine z_topL (31 * (31 * (31 * h4 + ((iZ (sIns f 0 5 0)).toInt64)) + ((iZ (sIns f 0 5 1)).toInt64)) + ((iZ (sLeast f 2)).toInt64)) hp_112.2 ?_
                    refine z_lstore_n (lv' := [(1, .long (31 * (31 * (31 * h4 + ((iZ (sIns f 0 5 0)).toInt64)) + ((iZ (sIns f 0 5 1)).toInt64)) + ((iZ (sLeast f 2)).toInt64))), (0, .ref (aD g 0)), (3, .int (iZ a))]) 116 K dX8_digest_115 rfl rfl (by decide) rfl ?_
                    refine z_lload_n 117 K dX8_digest_116 rfl rfl 0 rfl ?_
                    refine z_aload_n 118 K dX8_digest_117 rfl rfl 1 rfl ?_
                    refine z_vVd (As := []) (rest := [.long (31 * (31 * (31 * h4 + ((iZ (sIns f 0 5 0)).toInt64)) + ((iZ (sIns f 0 5 1)).toInt64)) + ((iZ (sLeast f 2)).toInt64))]) 121 K 0 (by decide) gMa_97 rfl rfl (a_X8_citedShare l g _ _ _ _ _ _ _ hIn_97 hP) (cwV 0 K.1.2.2.2.2 gX8_digest_X8_citedShare rfl rfl rfl (by decide +kernel) ⟨Nat.le_of_ble_eq_true rfl, Nat.le_of_ble_eq_true rfl⟩) rfl (Nat.le_of_ble_eq_true rfl) dX8_digest_118 rfl ⟨Nat.le_of_ble_eq_true rfl, Nat.le_of_ble_eq_true rfl⟩ rfl (fun z_13 C_14 hp_118 => ?_)
                    refine z_C hp_118.1 ?_
                    refine z_topD (sShare f) hp_118.2 ?_
                    refine z_vSl (As := [.double (sShare f)]) (rest := [.long (31 * (31 * (31 * h4 + ((iZ (sIns f 0 5 0)).toInt64)) + ((iZ (sIns f 0 5 1)).toInt64)) + ((iZ (sLeast f 2)).toInt64))]) 124 K (m_X8_bitsOfShare l g _ (sShare f) (shB_b (share_shB hw))) (va_cwS 1 K.1.2.2.2.2 gX8_digest_X8_bitsOfShare rfl rfl rfl (by decide +kernel) ⟨Nat.le_of_ble_eq_true rfl, Nat.le_of_ble_eq_true rfl⟩) rfl (Nat.le_of_ble_eq_true rfl) dX8_digest_121 rfl ⟨Nat.le_of_ble_eq_true rfl, Nat.le_of_ble_eq_true rfl⟩ rfl (fun z_15 C_16 hp_121 => ?_)
                    refine z_C hp_121.1 ?_
                    refine z_topL (bTot (sShare f)) hp_121.2 ?_
                    refine z_topL ((sShare f).toInt64) (shB_t (share_shB hw)) ?_
                    refine z_vSl (As := [.long (31 * (31 * (31 * h4 + ((iZ (sIns f 0 5 0)).toInt64)) + ((iZ (sIns f 0 5 1)).toInt64)) + ((iZ (sLeast f 2)).toInt64)), .long ((sShare f).toInt64)]) (rest := []) 127 K (m_X8_mixed l g _ (31 * (31 * (31 * h4 + ((iZ (sIns f 0 5 0)).toInt64)) + ((iZ (sIns f 0 5 1)).toInt64)) + ((iZ (sLeast f 2)).toInt64)) ((sShare f).toInt64) ) (va_cwS 2 K.1.2.2.2.2 gX8_digest_X8_mixed rfl rfl rfl (by decide +kernel) ⟨Nat.le_of_ble_eq_true rfl, Nat.le_of_ble_eq_true rfl⟩) rfl (Nat.le_of_ble_eq_true rfl) dX8_digest_124 rfl ⟨Nat.le_of_ble_eq_true rfl, Nat.le_of_ble_eq_true rfl⟩ rfl (fun z_17 C_18 hp_124 => ?_)
                    refine z_C hp_124.1 ?_
                    refine z_topL (31 * (31 * (31 * (31 * h4 + ((iZ (sIns f 0 5 0)).toInt64)) + ((iZ (sIns f 0 5 1)).toInt64)) + ((iZ (sLeast f 2)).toInt64)) + ((sShare f).toInt64)) hp_124.2 ?_
                    refine z_lstore_n (lv' := [(1, .long (31 * (31 * (31 * (31 * h4 + ((iZ (sIns f 0 5 0)).toInt64)) + ((iZ (sIns f 0 5 1)).toInt64)) + ((iZ (sLeast f 2)).toInt64)) + ((sShare f).toInt64))), (0, .ref (aD g 0)), (3, .int (iZ a))]) 128 K dX8_digest_127 rfl rfl (by decide) rfl ?_
                    refine z_lload_n 129 K dX8_digest_128 rfl rfl 0 rfl ?_
                    refine z_aload_n 130 K dX8_digest_129 rfl rfl 1 rfl ?_
                    refine z_get 133 K hin_X8_digest_X8 0 (by decide) gMa_97 rfl 4 (by decide) (by decide +kernel : Cond.fieldLink RX8 40 "BriefBuilder" "text" "LBriefBuilder$Text;" ∈ wsX8_digest) (fun _ h9 => h9) rfl dX8_digest_130 rfl ?_
                    refine z_get 136 K hin_X8_digest_X5 23 (by decide) gTx_97 rfl 1 (by decide) (by decide +kernel : Cond.fieldLink RX8 179 "BriefBuilder$Text" "length" "I" ∈ wsX8_digest) (fun _ h9 => h9) rfl dX8_digest_133 rfl ?_
                    refine z_i2l 137 K dX8_digest_136 rfl ?_
                    refine z_vSl (As := [.long (31 * (31 * (31 * (31 * h4 + ((iZ (sIns f 0 5 0)).toInt64)) + ((iZ (sIns f 0 5 1)).toInt64)) + ((iZ (sLeast f 2)).toInt64)) + ((sShare f).toInt64)), .long ((iZ ty).toInt64)]) (rest := []) 140 K (m_X8_mixed l g _ (31 * (31 * (31 * (31 * h4 + ((iZ (sIns f 0 5 0)).toInt64)) + ((iZ (sIns f 0 5 1)).toInt64)) + ((iZ (sLeast f 2)).toInt64)) + ((sShare f).toInt64)) ((iZ ty).toInt64) ) (va_cwS 2 K.1.2.2.2.2 gX8_digest_X8_mixed rfl rfl rfl (by decide +kernel) ⟨Nat.le_of_ble_eq_true rfl, Nat.le_of_ble_eq_true rfl⟩) rfl (Nat.le_of_ble_eq_true rfl) dX8_digest_137 rfl ⟨Nat.le_of_ble_eq_true rfl, Nat.le_of_ble_eq_true rfl⟩ rfl (fun z_19 C_20 hp_137 => ?_)
                    refine z_C hp_137.1 ?_
                    refine z_topL (31 * (31 * (31 * (31 * (31 * h4 + ((iZ (sIns f 0 5 0)).toInt64)) + ((iZ (sIns f 0 5 1)).toInt64)) + ((iZ (sLeast f 2)).toInt64)) + ((sShare f).toInt64)) + ((iZ ty).toInt64)) hp_137.2 ?_
                    refine z_lstore_n (lv' := [(1, .long (31 * (31 * (31 * (31 * (31 * h4 + ((iZ (sIns f 0 5 0)).toInt64)) + ((iZ (sIns f 0 5 1)).toInt64)) + ((iZ (sLeast f 2)).toInt64)) + ((sShare f).toInt64)) + ((iZ ty).toInt64))), (0, .ref (aD g 0)), (3, .int (iZ a))]) 141 K dX8_digest_140 rfl rfl (by decide) rfl ?_
                    refine z_iconst 142 K dX8_digest_141 rfl ?_
                    refine z_istore_n (lv' := [(3, .int (iZ 0)), (1, .long (31 * (31 * (31 * (31 * (31 * h4 + ((iZ (sIns f 0 5 0)).toInt64)) + ((iZ (sIns f 0 5 1)).toInt64)) + ((iZ (sLeast f 2)).toInt64)) + ((sShare f).toInt64)) + ((iZ ty).toInt64))), (0, .ref (aD g 0))]) 143 K dX8_digest_142 rfl rfl (by decide) rfl ?_
                    have loop_143 : ∀ (n9 : Nat) (h7 : Int64) (j9 : Int), (0 ≤ j9 ∧ j9 ≤ ty) → (h7 = zit (fun j h => dV h (tx j)) j9 (sD5 f k ty)) → (ty - j9 < (n9 : Int)) → Z p l e (({ frames := 5, cells := 0, slots := 0, locals := 126 } : Room)) s m args below meth c (MQ below (zQl g (fun z C' => IW g C' f k past ty tx ∧ zSame C C' ∧ z = sDig f k ty tx)) args s 0 0 (zA g)) g 4 0 0 (C_6) [(0, .ref (aD g 0)), (1, .long h7), (3, .int (iZ j9))] 143 [] := by
                      intro n9
                      induction n9 with
                      | zero =>
                        intro h7 j9 hkj hh7 hm9
                        exact absurd hm9 (by omega)
                      | succ n9 ih9 =>
                        intro h7 j9 hkj hh7 hm_143
                        have ih_143 := ih9
                        clear ih9
                        refine z_iload_n 144 K dX8_digest_143 rfl rfl 2 rfl ?_
                        refine z_aload_n 145 K dX8_digest_144 rfl rfl 0 rfl ?_
                        refine z_get 148 K hin_X8_digest_X8 0 (by decide) gMa_97 rfl 4 (by decide) (by decide +kernel : Cond.fieldLink RX8 40 "BriefBuilder" "text" "LBriefBuilder$Text;" ∈ wsX8_digest) (fun _ h9 => h9) rfl dX8_digest_145 rfl ?_
                        refine z_get 151 K hin_X8_digest_X5 23 (by decide) gTx_97 rfl 1 (by decide) (by decide +kernel : Cond.fieldLink RX8 179 "BriefBuilder$Text" "length" "I" ∈ wsX8_digest) (fun _ h9 => h9) rfl dX8_digest_148 rfl ?_
                        refine z_icmp_ge (tgt := 175) 154 K dX8_digest_151 rfl (by decide) (by omega) (by omega) (fun c_151 => ?_) (fun c_151 => ?_)
                        · skip
                          refine z_lload_n 176 K dX8_digest_175 rfl rfl 1 rfl ?_
                          exact z_lret K rfl dX8_digest_176 ⟨hIn_97, zSame_tr (zSame_tr hs9 hsm_84) hsm_97, by rw [hh7, show j9 = ty by omega]; rfl⟩
                        · skip
                          refine z_lload_n 155 K dX8_digest_154 rfl rfl 1 rfl ?_
                          refine z_aload_n 156 K dX8_digest_155 rfl rfl 0 rfl ?_
                          refine z_get 159 K hin_X8_digest_X8 0 (by decide) gMa_97 rfl 4 (by decide) (by decide +kernel : Cond.fieldLink RX8 40 "BriefBuilder" "text" "LBriefBuilder$Text;" ∈ wsX8_digest) (fun _ h9 => h9) rfl dX8_digest_156 rfl ?_
                          refine z_get 162 K hin_X8_digest_X5 23 (by decide) gTx_97 rfl 0 (by decide) (by decide +kernel : Cond.fieldLink RX8 313 "BriefBuilder$Text" "codes" "[I" ∈ wsX8_digest) (fun _ h9 => h9) rfl dX8_digest_159 rfl ?_
                          refine z_iload_n 163 K dX8_digest_162 rfl rfl 2 rfl ?_
                          refine z_iald (f := tx) 164 K 24 (by decide) gXc_97 (by omega) (by omega) (by decide) dX8_digest_163 rfl ?_
                          refine z_i2l 165 K dX8_digest_164 rfl ?_
                          refine z_vSl (As := [.long h7, .long ((iZ (tx j9)).toInt64)]) (rest := []) 168 K (m_X8_mixed l g _ h7 ((iZ (tx j9)).toInt64) ) (va_cwS 2 K.1.2.2.2.2 gX8_digest_X8_mixed rfl rfl rfl (by decide +kernel) ⟨Nat.le_of_ble_eq_true rfl, Nat.le_of_ble_eq_true rfl⟩) rfl (Nat.le_of_ble_eq_true rfl) dX8_digest_165 rfl ⟨Nat.le_of_ble_eq_true rfl, Nat.le_of_ble_eq_true rfl⟩ rfl (fun z_21 C_22 hp_165 => ?_)
                          refine z_C hp_165.1 ?_
                          refine z_topL (31 * h7 + ((iZ (tx j9)).toInt64)) hp_165.2 ?_
                          refine z_lstore_n (lv' := [(1, .long (31 * h7 + ((iZ (tx j9)).toInt64))), (0, .ref (aD g 0)), (3, .int (iZ j9))]) 169 K dX8_digest_168 rfl rfl (by decide) rfl ?_
                          refine z_iinc (lv' := [(3, .int (iZ (j9 + 1))), (1, .long (31 * h7 + ((iZ (tx j9)).toInt64))), (0, .ref (aD g 0))]) 172 K dX8_digest_169 rfl (j9 + 1) rfl 2 rfl (by decide) rfl ?_
                          refine z_goto (tgt := 143) K dX8_digest_172 (by decide) ?_
                          refine z_sub [2, 1, 0] rfl ?_
                          exact ih_143 (31 * h7 + ((iZ (tx j9)).toInt64)) (j9 + 1) (by omega) (by rw [zit_1 _ hkj.1, ← hh7]; rfl) (by omega)
                    refine z_sub [2, 1, 0] rfl ?_
                    exact loop_143 (Int.toNat (ty - 0) + 1) (31 * (31 * (31 * (31 * (31 * h4 + ((iZ (sIns f 0 5 0)).toInt64)) + ((iZ (sIns f 0 5 1)).toInt64)) + ((iZ (sLeast f 2)).toInt64)) + ((sShare f).toInt64)) + ((iZ ty).toInt64)) 0 (by omega) (by rw [zit_0]; unfold sD5 sD4; rw [show sD3 f k = h4 by rw [hh4, show a = 12 by omega]; rfl]; rfl) (by omega)
                  · skip
                    refine z_aload_n 67 K dX8_digest_66 rfl rfl 0 rfl ?_
                    refine z_lload_n 68 K dX8_digest_67 rfl rfl 1 rfl ?_
                    refine z_iload_n 69 K dX8_digest_68 rfl rfl 2 rfl ?_
                    refine z_vVl (As := [.long h4, .int (iZ a)]) (rest := []) 72 K 0 (by decide) gMa_9 rfl rfl (a_X8_mixedWithParagraph l g _ h4 a _ _ _ _ _ _ hI9 hP (by omega) (by omega)) (cwV 2 K.1.2.2.2.2 gX8_digest_X8_mixedWithParagraph rfl rfl rfl (by decide +kernel) ⟨Nat.le_of_ble_eq_true rfl, Nat.le_of_ble_eq_true rfl⟩) rfl (Nat.le_of_ble_eq_true rfl) dX8_digest_69 rfl ⟨Nat.le_of_ble_eq_true rfl, Nat.le_of_ble_eq_true rfl⟩ rfl (fun z_23 C_24 hp_69 => ?_)
                    refine z_C hp_69.1 ?_
                    refine z_topL (sDp f a h4) hp_69.2 ?_
                    refine z_lstore_n (lv' := [(1, .long (sDp f a h4)), (0, .ref (aD g 0)), (3, .int (iZ a))]) 73 K dX8_digest_72 rfl rfl (by decide) rfl ?_
                    refine z_iinc (lv' := [(3, .int (iZ (a + 1))), (1, .long (sDp f a h4)), (0, .ref (aD g 0))]) 76 K dX8_digest_73 rfl (a + 1) rfl 2 rfl (by decide) rfl ?_
                    refine z_goto (tgt := 60) K dX8_digest_76 (by decide) ?_
                    refine z_sub [2, 1, 0] rfl ?_
                    exact ih_60 (sDp f a h4) (a + 1) (by omega) (by rw [zit_1 _ hka.1, ← hh4]) (by omega)
              refine z_sub [1, 2, 0] rfl ?_
              exact loop_60 (Int.toNat (12 - 0) + 1) h2 0 (by omega) (by rw [zit_0, hh2, show p9 = f 1 by omega]; rfl) (by omega)
            · skip
              refine z_aload_n 46 K dX8_digest_45 rfl rfl 0 rfl ?_
              refine z_lload_n 47 K dX8_digest_46 rfl rfl 1 rfl ?_
              refine z_iload_n 48 K dX8_digest_47 rfl rfl 2 rfl ?_
              refine z_vVl (As := [.long h2, .int (iZ p9)]) (rest := []) 51 K 0 (by decide) gMa_9 rfl rfl (a_X8_mixedWithExhibit l g _ h2 p9 _ _ _ _ _ _ hI9 hP (by omega) (by omega)) (cwV 2 K.1.2.2.2.2 gX8_digest_X8_mixedWithExhibit rfl rfl rfl (by decide +kernel) ⟨Nat.le_of_ble_eq_true rfl, Nat.le_of_ble_eq_true rfl⟩) rfl (Nat.le_of_ble_eq_true rfl) dX8_digest_48 rfl ⟨Nat.le_of_ble_eq_true rfl, Nat.le_of_ble_eq_true rfl⟩ rfl (fun z_25 C_26 hp_48 => ?_)
              obtain ⟨hIn_48, hsm_48, hz_48⟩ := hp_48
              refine z_topL (sDe f p9 h2) hz_48 ?_
              obtain ⟨⟨gMa_48, gSp_48⟩, ⟨num_48, pgs_48, cc_48, cn_48, cp_48, pn_48, pm_48, ⟨gSt_48, gEx_48, gNum_48, gPgs_48, gCi_48, gCc_48, gCn_48, gCp_48, gPr_48, gPc_48, gPm_48⟩, gR_48⟩, -, -, -, ⟨cur_48, stp_48, pl_48, px_48, gTx_48, gXc_48, -, -, -⟩⟩ := id hIn_48
              refine z_lstore_n (lv' := [(1, .long (sDe f p9 h2)), (0, .ref (aD g 0)), (3, .int (iZ p9))]) 52 K dX8_digest_51 rfl rfl (by decide) rfl ?_
              refine z_iinc (lv' := [(3, .int (iZ (p9 + 1))), (1, .long (sDe f p9 h2)), (0, .ref (aD g 0))]) 55 K dX8_digest_52 rfl (p9 + 1) rfl 2 rfl (by decide) rfl ?_
              refine z_goto (tgt := 31) K dX8_digest_55 (by decide) ?_
              refine z_sub [2, 1, 0] rfl ?_
              exact ih_31 C_26 (sDe f p9 h2) (p9 + 1) hIn_48 (zSame_tr hs9 hsm_48) (by omega) (by rw [zit_1 _ hkp.1, ← hh2]) (by omega)
        refine z_sub [1, 2, 0] rfl ?_
        exact loop_31 (Int.toNat (f 1 - 0) + 1) C h1 0 hI0 (zSame_rf _) (by omega) (by rw [zit_0, hh1, show w = 9 by omega]; rfl) (by omega)
      · skip
        refine z_lload_n 13 K dX8_digest_12 rfl rfl 1 rfl ?_
        refine z_aload_n 14 K dX8_digest_13 rfl rfl 0 rfl ?_
        refine z_iload_n 15 K dX8_digest_14 rfl rfl 2 rfl ?_
        refine z_vVi (As := [.int (iZ w)]) (rest := [.long h1]) 18 K 0 (by decide) hMa rfl rfl (a_X8_count l g _ w _ _ _ _ _ _ hI0 hP (by omega) (by unfold kCnt; repeat (first | omega | split))) (cwV 1 K.1.2.2.2.2 gX8_digest_X8_count rfl rfl rfl (by decide +kernel) ⟨Nat.le_of_ble_eq_true rfl, Nat.le_of_ble_eq_true rfl⟩) rfl (Nat.le_of_ble_eq_true rfl) dX8_digest_15 rfl ⟨Nat.le_of_ble_eq_true rfl, Nat.le_of_ble_eq_true rfl⟩ rfl (fun z_27 C_28 hp_15 => ?_)
        refine z_C hp_15.1 ?_
        refine z_top (sCnt f k w) hp_15.2 ?_
        refine z_i2l 19 K dX8_digest_18 rfl ?_
        refine z_vSl (As := [.long h1, .long ((iZ (sCnt f k w)).toInt64)]) (rest := []) 22 K (m_X8_mixed l g _ h1 ((iZ (sCnt f k w)).toInt64) ) (va_cwS 2 K.1.2.2.2.2 gX8_digest_X8_mixed rfl rfl rfl (by decide +kernel) ⟨Nat.le_of_ble_eq_true rfl, Nat.le_of_ble_eq_true rfl⟩) rfl (Nat.le_of_ble_eq_true rfl) dX8_digest_19 rfl ⟨Nat.le_of_ble_eq_true rfl, Nat.le_of_ble_eq_true rfl⟩ rfl (fun z_29 C_30 hp_19 => ?_)
        refine z_C hp_19.1 ?_
        refine z_topL (31 * h1 + ((iZ (sCnt f k w)).toInt64)) hp_19.2 ?_
        refine z_lstore_n (lv' := [(1, .long (31 * h1 + ((iZ (sCnt f k w)).toInt64))), (0, .ref (aD g 0)), (3, .int (iZ w))]) 23 K dX8_digest_22 rfl rfl (by decide) rfl ?_
        refine z_iinc (lv' := [(3, .int (iZ (w + 1))), (1, .long (31 * h1 + ((iZ (sCnt f k w)).toInt64))), (0, .ref (aD g 0))]) 26 K dX8_digest_23 rfl (w + 1) rfl 2 rfl (by decide) rfl ?_
        refine z_goto (tgt := 6) K dX8_digest_26 (by decide) ?_
        refine z_sub [2, 1, 0] rfl ?_
        exact ih_6 (31 * h1 + ((iZ (sCnt f k w)).toInt64)) (w + 1) (by omega) (by rw [zit_1 _ hkw.1, ← hh1]; rfl) (by omega)
  refine z_sub [2, 1, 0] rfl ?_
  exact loop_6 (Int.toNat (9 - 0) + 1) (3137) 0 (by omega) rfl (by omega)
end ZID
