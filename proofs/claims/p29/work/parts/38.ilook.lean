/-! the class: its looks, in the reference's words -/
section ZIK
theorem cit_page {f num pgs cc cn cp pn pm lt lo vb vt vf : Int → Int} {cap a b : Int} (hR : RS f num pgs cc cn cp pn pm) (hV : VR f vb vt vf lt lo) (hw : WF f cap) (a0 : 0 ≤ a) (a1 : a < 12) (b0 : 0 ≤ b) (b1 : b < f (32 * a + 65)) : (if lt (6 * a + b) = -1 ∨ lo (6 * a + b) ≠ 0 then -1 else vf (lt (6 * a + b)) + cp (6 * a + b) - 1) = (if sLost f a b = true then -1 else zFp (sPg f) (f 0) (sLet f a b) + f (32 * a + 2 * b + 67) - 1) := by
  have v := hV.2.1 a b a0 a1 b0 b1
  have e := hR.ci a b a0 a1 b0 b1
  have r := sLet_rng hw.wr a b
  rw [v.1, v.2, e.2]
  by_cases c : sLost f a b = true
  · rw [if_pos c, if_pos (Or.inr (by rw [c]; decide))]
  · have d : ¬ (sLet f a b = -1) := fun z => c (decide_eq_true (Or.inl z))
    rw [if_neg c, if_neg (fun z => z.elim d (fun w => c (b2i_ne0.mp w))), (hV.1 _ (by omega) r.2).2.2]
theorem zIn_rng {h : Int → Int} {n p v : Int} (hr : ∀ j, 0 ≤ j → j < n → 0 ≤ h j ∧ h j ≤ 60) (hv : 0 ≤ p ∧ p ≤ n ∧ 0 ≤ v ∧ v ≤ 60) : ∀ j, 0 ≤ j → j < n + 1 → 0 ≤ zIn h n p v j ∧ zIn h n p v j ≤ 60 := by
  intro j j0 j1
  unfold zIn
  split
  · omega
  · split
    · exact hr _ (by omega) (by omega)
    · exact hr _ (by omega) (by omega)
theorem mov_rng {f num pgs cc cn cp pn pm : Int → Int} {cap p t : Int} (hR : RS f num pgs cc cn cp pn pm) (hw : WF f cap) (hp : 0 ≤ p ∧ p < f 1) (ht : 0 ≤ t ∧ t < f 1) : ∀ j, 0 ≤ j → j < f 1 → 0 ≤ zIn (zOut pgs (f 1) p) (f 1 - 1) t (pgs p) j ∧ zIn (zOut pgs (f 1) p) (f 1 - 1) t (pgs p) j ≤ 60 := by
  intro j j0 j1
  have g := hR.hpg hw
  have gp := g p hp.1 hp.2
  refine zIn_rng (n := f 1 - 1) (fun i i0 i1 => ?_) (by omega) j j0 (by omega)
  unfold zOut
  split
  · exact g _ (by omega) (by omega)
  · exact g _ (by omega) (by omega)
set_option maxRecDepth 20000 in
theorem hat1_X8_exhibit_4 : ∀ w ∈ (vx_atS RX8 124 "java/lang/IllegalArgumentException" ["java/lang/RuntimeException", "java/lang/Exception"]).filter goodWord, w ∈ wsX8_exhibit := by decide +kernel
set_option maxHeartbeats 4000000 in
set_option maxRecDepth 100000 in
theorem x_X8_exhibit (l : Launch) (g : zG) (C : Nat → va_E) (p0 : Int) (w : Int) (f : Int → Int) (past : Int → Int) (tx : Int → Int) (k : Int) (ty : Int) (cap : Int) (hI : IW g C f k past ty tx) (hP : PW cap f k past ty tx) (h_p0 : -2147483648 ≤ p0 ∧ p0 < 2147483648) (h_w : -2147483648 ≤ w ∧ w < 2147483648) (hk9 : kExh p0 w ≠ 0) (hlt : l.stackTraces = false) : vx_Met l yX8_exhibit wsX8_exhibit ({ frames := 7, cells := 1, slots := 6, locals := 103 } : Room) (zPre g C [.ref (aD g 0), .int (iZ p0), .int (iZ w)]) (zQi g (fun z C' => False)) (zX g (fun E C' => IW g C' f k past ty tx ∧ zSame C C' ∧ ((E = "java/lang/IllegalArgumentException" ∧ kExh p0 w = 1)))) 1 6 (zA g) := by
  refine z_enterX RX8 rfl (by decide) rfl (Nat.le_of_ble_eq_true rfl) ?_
  intro p e s m args below meth c K harg hne
  refine z_sub (lv' := [(0, .ref (aD g 0)), (1, .int (iZ p0)), (2, .int (iZ w))]) [0, 1, 2] rfl ?_
  have hI0 := hI
  obtain ⟨hB, hL, hV, hT, hH, hX⟩ := hI
  obtain ⟨hMa, hSp⟩ := id hB
  obtain ⟨num, pgs, cc, cn, cp, pn, pm, ⟨hSt, hEx, hNum, hPgs, hCi, hCc, hCn, hCp, hPr, hPc, hPm⟩, hR⟩ := id hL
  obtain ⟨vb, vt, vf, lt, lo, ⟨hVw, hVb, hVt, hVf, hLe, hLo⟩, hVR⟩ := id hV
  obtain ⟨tc, np, tp, hTr, hTn, hTp, hnp⟩ := id hT
  obtain ⟨cur, stp, pl, px, hTx, hXc, hXl, hXp, hpx⟩ := id hX
  obtain ⟨old, hHi, hHs, hho, -, -⟩ := id hH
  obtain ⟨hw, hk, hpst, hty, htxr, hrtx, hrp, hcap⟩ := id hP
  have hn := hw.n
  have hnx := hw.nx
  have hbp := hw.bp
  refine z_iload_n 1 K dX8_exhibit_0 rfl rfl 1 rfl ?_
  refine z_if_ge (tgt := 14) 4 K dX8_exhibit_1 rfl (by decide) (by omega) (fun c_1 => ?_) (fun c_1 => ?_)
  · skip
    refine z_iload_n 15 K dX8_exhibit_14 rfl rfl 2 rfl ?_
    refine z_iconst 16 K dX8_exhibit_15 rfl ?_
    refine z_xSv (As := [.int (iZ w), .int (iZ 5)]) (rest := []) 19 K (m_X8_checkWhat l g _ w 5 (by omega) (by omega) hlt) (va_cwS 2 K.1.2.2.2.2 gX8_exhibit_X8_checkWhat rfl rfl rfl (by decide +kernel) ⟨Nat.le_of_ble_eq_true rfl, Nat.le_of_ble_eq_true rfl⟩) rfl (Nat.le_of_ble_eq_true rfl) dX8_exhibit_16 rfl ⟨Nat.le_of_ble_eq_true rfl, Nat.le_of_ble_eq_true rfl⟩ rfl (fun E9 C9 hx9 => ?_) (fun C_2 hp_16 => ?_)
    · obtain ⟨hE9, rfl, hx9⟩ := hx9
      exact z_out hne K (Nat.le_of_ble_eq_true rfl) (Nat.le_of_ble_eq_true rfl) ⟨hI0, zSame_rf _, ⟨hE9, (by unfold kExh; repeat (first | omega | split))⟩⟩
    obtain ⟨hC_16, hc_16⟩ := hp_16
    refine z_C hC_16 ?_
    exact absurd (by unfold kExh; repeat (first | omega | split)) hk9
  · skip
    exact z_throw hne K hlt (cls := "java/lang/IllegalArgumentException") (text := "places are numbered from 0") (names := ["java/lang/RuntimeException", "java/lang/Exception"]) (by decide +kernel) (by decide +kernel) (by decide +kernel) (by decide +kernel) (by decide +kernel) hat1_X8_exhibit_4 at_IA_2 at_IA_g dX8_exhibit_4 dX8_exhibit_7 dX8_exhibit_8 dX8_exhibit_10 dX8_exhibit_13 (Nat.le_of_ble_eq_true rfl) (Nat.le_of_ble_eq_true rfl) (Nat.le_of_ble_eq_true rfl) (Nat.le_of_ble_eq_true rfl) (Nat.le_of_ble_eq_true rfl) (Nat.le_of_ble_eq_true rfl) ⟨hI0, zSame_rf _, ⟨rfl, (by unfold kExh; repeat (first | omega | split))⟩⟩
set_option maxRecDepth 20000 in
theorem hin_X8_exhibit_X1 : ∀ w ∈ wsX10, w ∈ wsX8_exhibit := by decide +kernel
set_option maxRecDepth 20000 in
theorem hin_X8_exhibit_X4 : ∀ w ∈ wsX40, w ∈ wsX8_exhibit := by decide +kernel
set_option maxRecDepth 20000 in
theorem hin_X8_exhibit_X7 : ∀ w ∈ wsX70, w ∈ wsX8_exhibit := by decide +kernel
set_option maxRecDepth 20000 in
theorem hin_X8_exhibit_X8 : ∀ w ∈ wsX80, w ∈ wsX8_exhibit := by decide +kernel
set_option maxHeartbeats 4000000 in
set_option maxRecDepth 100000 in
theorem a_X8_exhibit (l : Launch) (g : zG) (C : Nat → va_E) (p0 : Int) (w : Int) (f : Int → Int) (past : Int → Int) (tx : Int → Int) (k : Int) (ty : Int) (cap : Int) (hI : IW g C f k past ty tx) (hP : PW cap f k past ty tx) (h_p0 : -2147483648 ≤ p0 ∧ p0 < 2147483648) (h_w : -2147483648 ≤ w ∧ w < 2147483648) (hk9 : kExh p0 w = 0) : Met l yX8_exhibit wsX8_exhibit ({ frames := 2, cells := 0, slots := 0, locals := 45 } : Room) (zPre g C [.ref (aD g 0), .int (iZ p0), .int (iZ w)]) (zQi g (fun z C' => C' = C ∧ z = if p0 < f 1 then sOfE f p0 w else -1)) 0 0 (zA g) := by
  refine z_enter RX8 rfl (by decide) rfl (Nat.le_of_ble_eq_true rfl) ?_
  intro p e s m args below meth c K harg
  refine z_sub (lv' := [(0, .ref (aD g 0)), (1, .int (iZ p0)), (2, .int (iZ w))]) [0, 1, 2] rfl ?_
  have hI0 := hI
  obtain ⟨hB, hL, hV, hT, hH, hX⟩ := hI
  obtain ⟨hMa, hSp⟩ := id hB
  obtain ⟨num, pgs, cc, cn, cp, pn, pm, ⟨hSt, hEx, hNum, hPgs, hCi, hCc, hCn, hCp, hPr, hPc, hPm⟩, hR⟩ := id hL
  obtain ⟨vb, vt, vf, lt, lo, ⟨hVw, hVb, hVt, hVf, hLe, hLo⟩, hVR⟩ := id hV
  obtain ⟨tc, np, tp, hTr, hTn, hTp, hnp⟩ := id hT
  obtain ⟨cur, stp, pl, px, hTx, hXc, hXl, hXp, hpx⟩ := id hX
  obtain ⟨old, hHi, hHs, hho, -, -⟩ := id hH
  obtain ⟨hw, hk, hpst, hty, htxr, hrtx, hrp, hcap⟩ := id hP
  have hn := hw.n
  have hnx := hw.nx
  have hbp := hw.bp
  have hq : 0 ≤ p0 ∧ 0 ≤ w ∧ w ≤ 5 := by
    unfold kExh at hk9
    repeat (first | omega | split at hk9)
  refine z_iload_n 1 K dX8_exhibit_0 rfl rfl 1 rfl ?_
  refine z_if_ge (tgt := 14) 4 K dX8_exhibit_1 rfl (by decide) (by omega) (fun c_1 => ?_) (fun c_1 => ?_)
  · skip
    refine z_iload_n 15 K dX8_exhibit_14 rfl rfl 2 rfl ?_
    refine z_iconst 16 K dX8_exhibit_15 rfl ?_
    refine z_vSv (As := [.int (iZ w), .int (iZ 5)]) (rest := []) 19 K (n_X8_checkWhat l g _ w 5 (by omega) (by omega) (by omega)) (va_cwS 2 K.1.2.2.2.2 gX8_exhibit_X8_checkWhat rfl rfl rfl (by decide +kernel) ⟨Nat.le_of_ble_eq_true rfl, Nat.le_of_ble_eq_true rfl⟩) rfl (Nat.le_of_ble_eq_true rfl) dX8_exhibit_16 rfl ⟨Nat.le_of_ble_eq_true rfl, Nat.le_of_ble_eq_true rfl⟩ rfl (fun C_2 hp_16 => ?_)
    refine z_C hp_16 ?_
    refine z_iload_n 20 K dX8_exhibit_19 rfl rfl 1 rfl ?_
    refine z_aload_n 21 K dX8_exhibit_20 rfl rfl 0 rfl ?_
    refine z_get 24 K hin_X8_exhibit_X8 0 (by decide) hMa rfl 0 (by decide) (by decide +kernel : Cond.fieldLink RX8 12 "BriefBuilder" "state" "LBriefBuilder$State;" ∈ wsX8_exhibit) (fun _ h9 => h9) rfl dX8_exhibit_21 rfl ?_
    refine z_get 27 K hin_X8_exhibit_X4 1 (by decide) hSt rfl 0 (by decide) (by decide +kernel : Cond.fieldLink RX8 48 "BriefBuilder$State" "exhibits" "LBriefBuilder$Exhibits;" ∈ wsX8_exhibit) (fun _ h9 => h9) rfl dX8_exhibit_24 rfl ?_
    refine z_get 30 K hin_X8_exhibit_X1 2 (by decide) hEx rfl 2 (by decide) (by decide +kernel : Cond.fieldLink RX8 95 "BriefBuilder$Exhibits" "count" "I" ∈ wsX8_exhibit) (fun _ h9 => h9) rfl dX8_exhibit_27 rfl ?_
    refine z_icmp_lt (tgt := 35) 33 K dX8_exhibit_30 rfl (by decide) (by omega) (by omega) (fun c_30 => ?_) (fun c_30 => ?_)
    · skip
      refine z_iload_n 36 K dX8_exhibit_35 rfl rfl 2 rfl ?_
      by_cases sw_36_0 : w = 0
      · skip
        refine z_top (0) sw_36_0 ?_
        refine z_tableIn (tgt := 72) K dX8_exhibit_36 (by decide) (by decide) (by decide) rfl (by decide) ?_
        refine z_aload_n 73 K dX8_exhibit_72 rfl rfl 0 rfl ?_
        refine z_get 76 K hin_X8_exhibit_X8 0 (by decide) hMa rfl 0 (by decide) (by decide +kernel : Cond.fieldLink RX8 12 "BriefBuilder" "state" "LBriefBuilder$State;" ∈ wsX8_exhibit) (fun _ h9 => h9) rfl dX8_exhibit_73 rfl ?_
        refine z_get 79 K hin_X8_exhibit_X4 1 (by decide) hSt rfl 0 (by decide) (by decide +kernel : Cond.fieldLink RX8 48 "BriefBuilder$State" "exhibits" "LBriefBuilder$Exhibits;" ∈ wsX8_exhibit) (fun _ h9 => h9) rfl dX8_exhibit_76 rfl ?_
        refine z_get 82 K hin_X8_exhibit_X1 2 (by decide) hEx rfl 0 (by decide) (by decide +kernel : Cond.fieldLink RX8 78 "BriefBuilder$Exhibits" "numbers" "[I" ∈ wsX8_exhibit) (fun _ h9 => h9) rfl dX8_exhibit_79 rfl ?_
        refine z_iload_n 83 K dX8_exhibit_82 rfl rfl 1 rfl ?_
        refine z_iald (f := num) 84 K 3 (by decide) hNum (by omega) (by omega) (by decide) dX8_exhibit_83 rfl ?_
        exact z_iret K rfl dX8_exhibit_84 ⟨rfl, by rw [if_pos (by omega)]; unfold sOfE; rw [if_pos (by omega)]; exact (hR.ex p0 (by omega) (by omega)).1⟩
      by_cases sw_36_1 : w = 1
      · skip
        refine z_top (1) sw_36_1 ?_
        refine z_tableIn (tgt := 85) K dX8_exhibit_36 (by decide) (by decide) (by decide) rfl (by decide) ?_
        refine z_aload_n 86 K dX8_exhibit_85 rfl rfl 0 rfl ?_
        refine z_get 89 K hin_X8_exhibit_X8 0 (by decide) hMa rfl 0 (by decide) (by decide +kernel : Cond.fieldLink RX8 12 "BriefBuilder" "state" "LBriefBuilder$State;" ∈ wsX8_exhibit) (fun _ h9 => h9) rfl dX8_exhibit_86 rfl ?_
        refine z_get 92 K hin_X8_exhibit_X4 1 (by decide) hSt rfl 0 (by decide) (by decide +kernel : Cond.fieldLink RX8 48 "BriefBuilder$State" "exhibits" "LBriefBuilder$Exhibits;" ∈ wsX8_exhibit) (fun _ h9 => h9) rfl dX8_exhibit_89 rfl ?_
        refine z_get 95 K hin_X8_exhibit_X1 2 (by decide) hEx rfl 1 (by decide) (by decide +kernel : Cond.fieldLink RX8 81 "BriefBuilder$Exhibits" "pages" "[I" ∈ wsX8_exhibit) (fun _ h9 => h9) rfl dX8_exhibit_92 rfl ?_
        refine z_iload_n 96 K dX8_exhibit_95 rfl rfl 1 rfl ?_
        refine z_iald (f := pgs) 97 K 4 (by decide) hPgs (by omega) (by omega) (by decide) dX8_exhibit_96 rfl ?_
        exact z_iret K rfl dX8_exhibit_97 ⟨rfl, by rw [if_pos (by omega)]; unfold sOfE; rw [if_neg (by omega), if_pos (by omega)]; exact (hR.ex p0 (by omega) (by omega)).2⟩
      by_cases sw_36_2 : w = 2
      · skip
        refine z_top (2) sw_36_2 ?_
        refine z_tableIn (tgt := 98) K dX8_exhibit_36 (by decide) (by decide) (by decide) rfl (by decide) ?_
        refine z_aload_n 99 K dX8_exhibit_98 rfl rfl 0 rfl ?_
        refine z_get 102 K hin_X8_exhibit_X8 0 (by decide) hMa rfl 1 (by decide) (by decide +kernel : Cond.fieldLink RX8 19 "BriefBuilder" "view" "LBriefBuilder$View;" ∈ wsX8_exhibit) (fun _ h9 => h9) rfl dX8_exhibit_99 rfl ?_
        refine z_get 105 K hin_X8_exhibit_X7 12 (by decide) hVw rfl 0 (by decide) (by decide +kernel : Cond.fieldLink RX8 217 "BriefBuilder$View" "binders" "[I" ∈ wsX8_exhibit) (fun _ h9 => h9) rfl dX8_exhibit_102 rfl ?_
        refine z_iload_n 106 K dX8_exhibit_105 rfl rfl 1 rfl ?_
        refine z_iald (f := vb) 107 K 13 (by decide) hVb (by omega) (by omega) (by decide) dX8_exhibit_106 rfl ?_
        exact z_iret K rfl dX8_exhibit_107 ⟨rfl, by rw [if_pos (by omega)]; unfold sOfE; rw [if_neg (by omega), if_neg (by omega), if_pos (by omega)]; unfold zLies; rw [if_pos (by omega)]; exact (hVR.1 p0 (by omega) (by omega)).1⟩
      by_cases sw_36_3 : w = 3
      · skip
        refine z_top (3) sw_36_3 ?_
        refine z_tableIn (tgt := 108) K dX8_exhibit_36 (by decide) (by decide) (by decide) rfl (by decide) ?_
        refine z_aload_n 109 K dX8_exhibit_108 rfl rfl 0 rfl ?_
        refine z_get 112 K hin_X8_exhibit_X8 0 (by decide) hMa rfl 1 (by decide) (by decide +kernel : Cond.fieldLink RX8 19 "BriefBuilder" "view" "LBriefBuilder$View;" ∈ wsX8_exhibit) (fun _ h9 => h9) rfl dX8_exhibit_109 rfl ?_
        refine z_get 115 K hin_X8_exhibit_X7 12 (by decide) hVw rfl 1 (by decide) (by decide +kernel : Cond.fieldLink RX8 220 "BriefBuilder$View" "tabs" "[I" ∈ wsX8_exhibit) (fun _ h9 => h9) rfl dX8_exhibit_112 rfl ?_
        refine z_iload_n 116 K dX8_exhibit_115 rfl rfl 1 rfl ?_
        refine z_iald (f := vt) 117 K 14 (by decide) hVt (by omega) (by omega) (by decide) dX8_exhibit_116 rfl ?_
        exact z_iret K rfl dX8_exhibit_117 ⟨rfl, by rw [if_pos (by omega)]; unfold sOfE; rw [if_neg (by omega), if_neg (by omega), if_pos (by omega)]; unfold zLies; rw [if_neg (by omega), if_pos (by omega)]; exact (hVR.1 p0 (by omega) (by omega)).2.1⟩
      by_cases sw_36_4 : w = 4
      · skip
        refine z_top (4) sw_36_4 ?_
        refine z_tableIn (tgt := 118) K dX8_exhibit_36 (by decide) (by decide) (by decide) rfl (by decide) ?_
        refine z_aload_n 119 K dX8_exhibit_118 rfl rfl 0 rfl ?_
        refine z_get 122 K hin_X8_exhibit_X8 0 (by decide) hMa rfl 1 (by decide) (by decide +kernel : Cond.fieldLink RX8 19 "BriefBuilder" "view" "LBriefBuilder$View;" ∈ wsX8_exhibit) (fun _ h9 => h9) rfl dX8_exhibit_119 rfl ?_
        refine z_get 125 K hin_X8_exhibit_X7 12 (by decide) hVw rfl 2 (by decide) (by decide +kernel : Cond.fieldLink RX8 223 "BriefBuilder$View" "firstPages" "[I" ∈ wsX8_exhibit) (fun _ h9 => h9) rfl dX8_exhibit_122 rfl ?_
        refine z_iload_n 126 K dX8_exhibit_125 rfl rfl 1 rfl ?_
        refine z_iald (f := vf) 127 K 15 (by decide) hVf (by omega) (by omega) (by decide) dX8_exhibit_126 rfl ?_
        exact z_iret K rfl dX8_exhibit_127 ⟨rfl, by rw [if_pos (by omega)]; unfold sOfE; rw [if_neg (by omega), if_neg (by omega), if_pos (by omega)]; unfold zLies; rw [if_neg (by omega), if_neg (by omega)]; exact (hVR.1 p0 (by omega) (by omega)).2.2⟩
      refine z_tableOut (tgt := 128) K dX8_exhibit_36 (by omega) (by omega) (by decide) ?_
      refine z_aload_n 129 K dX8_exhibit_128 rfl rfl 0 rfl ?_
      refine z_iload_n 130 K dX8_exhibit_129 rfl rfl 1 rfl ?_
      refine z_vVi (As := [.int (iZ p0)]) (rest := []) 133 K 0 (by decide) hMa rfl rfl (m_X8_citationsOf l g _ p0 cc (sBds f) lt hMa hSt hCi hCc hVw hLe (hR.hcc hw) hVR.2.2.1 (by omega)) (cwV 1 K.1.2.2.2.2 gX8_exhibit_X8_citationsOf rfl rfl rfl (by decide +kernel) ⟨Nat.le_of_ble_eq_true rfl, Nat.le_of_ble_eq_true rfl⟩) rfl (Nat.le_of_ble_eq_true rfl) dX8_exhibit_130 rfl ⟨Nat.le_of_ble_eq_true rfl, Nat.le_of_ble_eq_true rfl⟩ rfl (fun z_3 C_4 hp_130 => ?_)
      refine z_C hp_130.1 ?_
      refine z_top (iCo cc lt p0) hp_130.2 ?_
      exact z_iret K rfl dX8_exhibit_133 ⟨rfl, by rw [if_pos (by omega)]; unfold sOfE; rw [if_neg (by omega), if_neg (by omega), if_neg (by omega)]; exact look_co hR hVR hw⟩
    · skip
      refine z_iconst 34 K dX8_exhibit_33 rfl ?_
      exact z_iret K rfl dX8_exhibit_34 ⟨rfl, by rw [if_neg (by omega)]⟩
  · skip
    exact absurd hq (by omega)
set_option maxRecDepth 20000 in
theorem hat1_X8_citation_8 : ∀ w ∈ (vx_atS RX8 124 "java/lang/IllegalArgumentException" ["java/lang/RuntimeException", "java/lang/Exception"]).filter goodWord, w ∈ wsX8_citation := by decide +kernel
set_option maxHeartbeats 4000000 in
set_option maxRecDepth 100000 in
theorem x_X8_citation (l : Launch) (g : zG) (C : Nat → va_E) (a : Int) (b : Int) (w : Int) (f : Int → Int) (past : Int → Int) (tx : Int → Int) (k : Int) (ty : Int) (cap : Int) (hI : IW g C f k past ty tx) (hP : PW cap f k past ty tx) (h_a : -2147483648 ≤ a ∧ a < 2147483648) (h_b : -2147483648 ≤ b ∧ b < 2147483648) (h_w : -2147483648 ≤ w ∧ w < 2147483648) (hk9 : kCtn a b w ≠ 0) (hlt : l.stackTraces = false) : vx_Met l yX8_citation wsX8_citation ({ frames := 7, cells := 2, slots := 12, locals := 103 } : Room) (zPre g C [.ref (aD g 0), .int (iZ a), .int (iZ b), .int (iZ w)]) (zQi g (fun z C' => False)) (zX g (fun E C' => IW g C' f k past ty tx ∧ zSame C C' ∧ ((E = "java/lang/IndexOutOfBoundsException" ∧ kCtn a b w = 1) ∨ (E = "java/lang/IllegalArgumentException" ∧ kCtn a b w = 2)))) 2 12 (zA g) := by
  refine z_enterX RX8 rfl (by decide) rfl (Nat.le_of_ble_eq_true rfl) ?_
  intro p e s m args below meth c K harg hne
  refine z_sub (lv' := [(0, .ref (aD g 0)), (1, .int (iZ a)), (2, .int (iZ b)), (3, .int (iZ w))]) [0, 1, 2, 3] rfl ?_
  have hI0 := hI
  obtain ⟨hB, hL, hV, hT, hH, hX⟩ := hI
  obtain ⟨hMa, hSp⟩ := id hB
  obtain ⟨num, pgs, cc, cn, cp, pn, pm, ⟨hSt, hEx, hNum, hPgs, hCi, hCc, hCn, hCp, hPr, hPc, hPm⟩, hR⟩ := id hL
  obtain ⟨vb, vt, vf, lt, lo, ⟨hVw, hVb, hVt, hVf, hLe, hLo⟩, hVR⟩ := id hV
  obtain ⟨tc, np, tp, hTr, hTn, hTp, hnp⟩ := id hT
  obtain ⟨cur, stp, pl, px, hTx, hXc, hXl, hXp, hpx⟩ := id hX
  obtain ⟨old, hHi, hHs, hho, -, -⟩ := id hH
  obtain ⟨hw, hk, hpst, hty, htxr, hrtx, hrp, hcap⟩ := id hP
  have hn := hw.n
  have hnx := hw.nx
  have hbp := hw.bp
  refine z_iload_n 1 K dX8_citation_0 rfl rfl 1 rfl ?_
  refine z_xSv (As := [.int (iZ a)]) (rest := []) 4 K (m_X8_checkParagraph l g _ a (by omega) hlt) (va_cwS 1 K.1.2.2.2.2 gX8_citation_X8_checkParagraph rfl rfl rfl (by decide +kernel) ⟨Nat.le_of_ble_eq_true rfl, Nat.le_of_ble_eq_true rfl⟩) rfl (Nat.le_of_ble_eq_true rfl) dX8_citation_1 rfl ⟨Nat.le_of_ble_eq_true rfl, Nat.le_of_ble_eq_true rfl⟩ rfl (fun E9 C9 hx9 => ?_) (fun C_2 hp_1 => ?_)
  · obtain ⟨hE9, rfl, hx9⟩ := hx9
    exact z_out hne K (Nat.le_of_ble_eq_true rfl) (Nat.le_of_ble_eq_true rfl) ⟨hI0, zSame_rf _, Or.inl ⟨hE9, (by unfold kCtn; repeat (first | omega | split))⟩⟩
  obtain ⟨hC_1, hc_1⟩ := hp_1
  refine z_C hC_1 ?_
  refine z_iload_n 5 K dX8_citation_4 rfl rfl 2 rfl ?_
  refine z_if_ge (tgt := 18) 8 K dX8_citation_5 rfl (by decide) (by omega) (fun c_5 => ?_) (fun c_5 => ?_)
  · skip
    refine z_iload_n 19 K dX8_citation_18 rfl rfl 3 rfl ?_
    refine z_iconst 20 K dX8_citation_19 rfl ?_
    refine z_xSv (As := [.int (iZ w), .int (iZ 4)]) (rest := []) 23 K (m_X8_checkWhat l g _ w 4 (by omega) (by omega) hlt) (va_cwS 2 K.1.2.2.2.2 gX8_citation_X8_checkWhat rfl rfl rfl (by decide +kernel) ⟨Nat.le_of_ble_eq_true rfl, Nat.le_of_ble_eq_true rfl⟩) rfl (Nat.le_of_ble_eq_true rfl) dX8_citation_20 rfl ⟨by simp only []; omega, by simp only []; omega⟩ rfl (fun E9 C9 hx9 => ?_) (fun C_4 hp_20 => ?_)
    · obtain ⟨hE9, rfl, hx9⟩ := hx9
      exact z_out hne K (Nat.le_of_ble_eq_true rfl) (Nat.le_of_ble_eq_true rfl) ⟨hI0, zSame_rf _, Or.inr (⟨hE9, (by unfold kCtn; repeat (first | omega | split))⟩)⟩
    obtain ⟨hC_20, hc_20⟩ := hp_20
    refine z_C hC_20 ?_
    exact absurd (by unfold kCtn; repeat (first | omega | split)) hk9
  · skip
    exact z_throw hne K hlt (cls := "java/lang/IllegalArgumentException") (text := "citations are numbered from 0") (names := ["java/lang/RuntimeException", "java/lang/Exception"]) (by decide +kernel) (by decide +kernel) (by decide +kernel) (by decide +kernel) (by decide +kernel) hat1_X8_citation_8 at_IA_2 at_IA_g dX8_citation_8 dX8_citation_11 dX8_citation_12 dX8_citation_14 dX8_citation_17 (Nat.le_of_ble_eq_true rfl) (Nat.le_of_ble_eq_true rfl) (Nat.le_of_ble_eq_true rfl) (Nat.le_of_ble_eq_true rfl) (Nat.le_of_ble_eq_true rfl) (Nat.le_of_ble_eq_true rfl) ⟨hI0, zSame_rf _, Or.inr (⟨rfl, (by unfold kCtn; repeat (first | omega | split))⟩)⟩
set_option maxRecDepth 20000 in
theorem hin_X8_citation_X0 : ∀ w ∈ wsX00, w ∈ wsX8_citation := by decide +kernel
set_option maxRecDepth 20000 in
theorem hin_X8_citation_X4 : ∀ w ∈ wsX40, w ∈ wsX8_citation := by decide +kernel
set_option maxRecDepth 20000 in
theorem hin_X8_citation_X7 : ∀ w ∈ wsX70, w ∈ wsX8_citation := by decide +kernel
set_option maxRecDepth 20000 in
theorem hin_X8_citation_X8 : ∀ w ∈ wsX80, w ∈ wsX8_citation := by decide +kernel
set_option maxHeartbeats 4000000 in
set_option maxRecDepth 100000 in
theorem a_X8_citation (l : Launch) (g : zG) (C : Nat → va_E) (a : Int) (b : Int) (w : Int) (f : Int → Int) (past : Int → Int) (tx : Int → Int) (k : Int) (ty : Int) (cap : Int) (hI : IW g C f k past ty tx) (hP : PW cap f k past ty tx) (h_a : -2147483648 ≤ a ∧ a < 2147483648) (h_b : -2147483648 ≤ b ∧ b < 2147483648) (h_w : -2147483648 ≤ w ∧ w < 2147483648) (hk9 : kCtn a b w = 0) : Met l yX8_citation wsX8_citation ({ frames := 1, cells := 0, slots := 0, locals := 22 } : Room) (zPre g C [.ref (aD g 0), .int (iZ a), .int (iZ b), .int (iZ w)]) (zQi g (fun z C' => C' = C ∧ z = if b < f (32 * a + 65) then sOfC f a b w else -1)) 0 0 (zA g) := by
  refine z_enter RX8 rfl (by decide) rfl (Nat.le_of_ble_eq_true rfl) ?_
  intro p e s m args below meth c K harg
  refine z_sub (lv' := [(0, .ref (aD g 0)), (1, .int (iZ a)), (2, .int (iZ b)), (3, .int (iZ w))]) [0, 1, 2, 3] rfl ?_
  have hI0 := hI
  obtain ⟨hB, hL, hV, hT, hH, hX⟩ := hI
  obtain ⟨hMa, hSp⟩ := id hB
  obtain ⟨num, pgs, cc, cn, cp, pn, pm, ⟨hSt, hEx, hNum, hPgs, hCi, hCc, hCn, hCp, hPr, hPc, hPm⟩, hR⟩ := id hL
  obtain ⟨vb, vt, vf, lt, lo, ⟨hVw, hVb, hVt, hVf, hLe, hLo⟩, hVR⟩ := id hV
  obtain ⟨tc, np, tp, hTr, hTn, hTp, hnp⟩ := id hT
  obtain ⟨cur, stp, pl, px, hTx, hXc, hXl, hXp, hpx⟩ := id hX
  obtain ⟨old, hHi, hHs, hho, -, -⟩ := id hH
  obtain ⟨hw, hk, hpst, hty, htxr, hrtx, hrp, hcap⟩ := id hP
  have hn := hw.n
  have hnx := hw.nx
  have hbp := hw.bp
  have hq : (0 ≤ a ∧ a < 12) ∧ 0 ≤ b ∧ 0 ≤ w ∧ w ≤ 4 := by
    unfold kCtn at hk9
    repeat (first | omega | split at hk9)
  have hpa := hw.pa a (by omega) (by omega)
  have hca := hR.pa a (by omega) (by omega)
  refine z_iload_n 1 K dX8_citation_0 rfl rfl 1 rfl ?_
  refine z_vSv (As := [.int (iZ a)]) (rest := []) 4 K (n_X8_checkParagraph l g _ a (by omega) (by omega)) (va_cwS 1 K.1.2.2.2.2 gX8_citation_X8_checkParagraph rfl rfl rfl (by decide +kernel) ⟨Nat.le_of_ble_eq_true rfl, Nat.le_of_ble_eq_true rfl⟩) rfl (Nat.le_of_ble_eq_true rfl) dX8_citation_1 rfl ⟨Nat.le_of_ble_eq_true rfl, Nat.le_of_ble_eq_true rfl⟩ rfl (fun C_2 hp_1 => ?_)
  refine z_C hp_1 ?_
  refine z_iload_n 5 K dX8_citation_4 rfl rfl 2 rfl ?_
  refine z_if_ge (tgt := 18) 8 K dX8_citation_5 rfl (by decide) (by omega) (fun c_5 => ?_) (fun c_5 => ?_)
  · skip
    refine z_iload_n 19 K dX8_citation_18 rfl rfl 3 rfl ?_
    refine z_iconst 20 K dX8_citation_19 rfl ?_
    refine z_vSv (As := [.int (iZ w), .int (iZ 4)]) (rest := []) 23 K (n_X8_checkWhat l g _ w 4 (by omega) (by omega) (by omega)) (va_cwS 2 K.1.2.2.2.2 gX8_citation_X8_checkWhat rfl rfl rfl (by decide +kernel) ⟨Nat.le_of_ble_eq_true rfl, Nat.le_of_ble_eq_true rfl⟩) rfl (Nat.le_of_ble_eq_true rfl) dX8_citation_20 rfl ⟨Nat.le_of_ble_eq_true rfl, Nat.le_of_ble_eq_true rfl⟩ rfl (fun C_4 hp_20 => ?_)
    refine z_C hp_20 ?_
    refine z_iload_n 24 K dX8_citation_23 rfl rfl 2 rfl ?_
    refine z_aload_n 25 K dX8_citation_24 rfl rfl 0 rfl ?_
    refine z_get 28 K hin_X8_citation_X8 0 (by decide) hMa rfl 0 (by decide) (by decide +kernel : Cond.fieldLink RX8 12 "BriefBuilder" "state" "LBriefBuilder$State;" ∈ wsX8_citation) (fun _ h9 => h9) rfl dX8_citation_25 rfl ?_
    refine z_get 31 K hin_X8_citation_X4 1 (by decide) hSt rfl 1 (by decide) (by decide +kernel : Cond.fieldLink RX8 111 "BriefBuilder$State" "citations" "LBriefBuilder$Citations;" ∈ wsX8_citation) (fun _ h9 => h9) rfl dX8_citation_28 rfl ?_
    refine z_get 34 K hin_X8_citation_X0 5 (by decide) hCi rfl 0 (by decide) (by decide +kernel : Cond.fieldLink RX8 131 "BriefBuilder$Citations" "counts" "[I" ∈ wsX8_citation) (fun _ h9 => h9) rfl dX8_citation_31 rfl ?_
    refine z_iload_n 35 K dX8_citation_34 rfl rfl 1 rfl ?_
    refine z_iald (f := cc) 36 K 6 (by decide) hCc (by omega) (by omega) (by decide) dX8_citation_35 rfl ?_
    refine z_top (f (32 * a + 65)) hca.1 ?_
    refine z_icmp_lt (tgt := 41) 39 K dX8_citation_36 rfl (by decide) (by omega) (by omega) (fun c_36 => ?_) (fun c_36 => ?_)
    · skip
      have hb9 : b < f (32 * a + 65) := by omega
      have hci := hR.ci a b hq.1.1 hq.1.2 hq.2.1 hb9
      have hv9 := hVR.2.1 a b hq.1.1 hq.1.2 hq.2.1 hb9
      refine z_iload_n 42 K dX8_citation_41 rfl rfl 1 rfl ?_
      refine z_iload_n 43 K dX8_citation_42 rfl rfl 2 rfl ?_
      refine z_vSi (As := [.int (iZ a), .int (iZ b)]) (rest := []) 46 K (m_X8_cellOf l g _ a b ) (va_cwS 2 K.1.2.2.2.2 gX8_citation_X8_cellOf rfl rfl rfl (by decide +kernel) ⟨Nat.le_of_ble_eq_true rfl, Nat.le_of_ble_eq_true rfl⟩) rfl (Nat.le_of_ble_eq_true rfl) dX8_citation_43 rfl ⟨Nat.le_of_ble_eq_true rfl, Nat.le_of_ble_eq_true rfl⟩ rfl (fun z_5 C_6 hp_43 => ?_)
      refine z_C hp_43.1 ?_
      refine z_top (6 * a + b) hp_43.2 ?_
      refine z_istore (lv' := [(4, .int (iZ (6 * a + b))), (0, .ref (aD g 0)), (1, .int (iZ a)), (2, .int (iZ b)), (3, .int (iZ w))]) 48 K dX8_citation_46 rfl (by decide) rfl ?_
      refine z_iload_n 49 K dX8_citation_48 rfl rfl 4 rfl ?_
      by_cases sw_49_0 : w = 0
      · skip
        refine z_top (0) sw_49_0 ?_
        refine z_tableIn (tgt := 80) K dX8_citation_49 (by decide) (by decide) (by decide) rfl (by decide) ?_
        refine z_aload_n 81 K dX8_citation_80 rfl rfl 1 rfl ?_
        refine z_get 84 K hin_X8_citation_X8 0 (by decide) hMa rfl 0 (by decide) (by decide +kernel : Cond.fieldLink RX8 12 "BriefBuilder" "state" "LBriefBuilder$State;" ∈ wsX8_citation) (fun _ h9 => h9) rfl dX8_citation_81 rfl ?_
        refine z_get 87 K hin_X8_citation_X4 1 (by decide) hSt rfl 1 (by decide) (by decide +kernel : Cond.fieldLink RX8 111 "BriefBuilder$State" "citations" "LBriefBuilder$Citations;" ∈ wsX8_citation) (fun _ h9 => h9) rfl dX8_citation_84 rfl ?_
        refine z_get 90 K hin_X8_citation_X0 5 (by decide) hCi rfl 1 (by decide) (by decide +kernel : Cond.fieldLink RX8 231 "BriefBuilder$Citations" "numbers" "[I" ∈ wsX8_citation) (fun _ h9 => h9) rfl dX8_citation_87 rfl ?_
        refine z_iload 92 K dX8_citation_90 rfl 0 rfl ?_
        refine z_iald (f := cn) 93 K 7 (by decide) hCn (by omega) (by omega) (by decide) dX8_citation_92 rfl ?_
        exact z_iret K rfl dX8_citation_93 ⟨rfl, by rw [if_pos (by omega)]; unfold sOfC; rw [if_pos (by omega)]; exact hci.1⟩
      by_cases sw_49_1 : w = 1
      · skip
        refine z_top (1) sw_49_1 ?_
        refine z_tableIn (tgt := 94) K dX8_citation_49 (by decide) (by decide) (by decide) rfl (by decide) ?_
        refine z_aload_n 95 K dX8_citation_94 rfl rfl 1 rfl ?_
        refine z_get 98 K hin_X8_citation_X8 0 (by decide) hMa rfl 1 (by decide) (by decide +kernel : Cond.fieldLink RX8 19 "BriefBuilder" "view" "LBriefBuilder$View;" ∈ wsX8_citation) (fun _ h9 => h9) rfl dX8_citation_95 rfl ?_
        refine z_get 101 K hin_X8_citation_X7 12 (by decide) hVw rfl 3 (by decide) (by decide +kernel : Cond.fieldLink RX8 164 "BriefBuilder$View" "letters" "[I" ∈ wsX8_citation) (fun _ h9 => h9) rfl dX8_citation_98 rfl ?_
        refine z_iload 103 K dX8_citation_101 rfl 0 rfl ?_
        refine z_iald (f := lt) 104 K 16 (by decide) hLe (by omega) (by omega) (by decide) dX8_citation_103 rfl ?_
        exact z_iret K rfl dX8_citation_104 ⟨rfl, by rw [if_pos (by omega)]; unfold sOfC; rw [if_neg (by omega), if_pos (by omega)]; exact hv9.1⟩
      by_cases sw_49_2 : w = 2
      · skip
        refine z_top (2) sw_49_2 ?_
        refine z_tableIn (tgt := 105) K dX8_citation_49 (by decide) (by decide) (by decide) rfl (by decide) ?_
        refine z_aload_n 106 K dX8_citation_105 rfl rfl 1 rfl ?_
        refine z_get 109 K hin_X8_citation_X8 0 (by decide) hMa rfl 0 (by decide) (by decide +kernel : Cond.fieldLink RX8 12 "BriefBuilder" "state" "LBriefBuilder$State;" ∈ wsX8_citation) (fun _ h9 => h9) rfl dX8_citation_106 rfl ?_
        refine z_get 112 K hin_X8_citation_X4 1 (by decide) hSt rfl 1 (by decide) (by decide +kernel : Cond.fieldLink RX8 111 "BriefBuilder$State" "citations" "LBriefBuilder$Citations;" ∈ wsX8_citation) (fun _ h9 => h9) rfl dX8_citation_109 rfl ?_
        refine z_get 115 K hin_X8_citation_X0 5 (by decide) hCi rfl 2 (by decide) (by decide +kernel : Cond.fieldLink RX8 167 "BriefBuilder$Citations" "pages" "[I" ∈ wsX8_citation) (fun _ h9 => h9) rfl dX8_citation_112 rfl ?_
        refine z_iload 117 K dX8_citation_115 rfl 0 rfl ?_
        refine z_iald (f := cp) 118 K 8 (by decide) hCp (by omega) (by omega) (by decide) dX8_citation_117 rfl ?_
        exact z_iret K rfl dX8_citation_118 ⟨rfl, by rw [if_pos (by omega)]; unfold sOfC; rw [if_neg (by omega), if_neg (by omega), if_pos (by omega)]; exact hci.2⟩
      by_cases sw_49_3 : w = 3
      · skip
        refine z_top (3) sw_49_3 ?_
        refine z_tableIn (tgt := 119) K dX8_citation_49 (by decide) (by decide) (by decide) rfl (by decide) ?_
        refine z_aload_n 120 K dX8_citation_119 rfl rfl 1 rfl ?_
        refine z_get 123 K hin_X8_citation_X8 0 (by decide) hMa rfl 1 (by decide) (by decide +kernel : Cond.fieldLink RX8 19 "BriefBuilder" "view" "LBriefBuilder$View;" ∈ wsX8_citation) (fun _ h9 => h9) rfl dX8_citation_120 rfl ?_
        refine z_get 126 K hin_X8_citation_X7 12 (by decide) hVw rfl 4 (by decide) (by decide +kernel : Cond.fieldLink RX8 139 "BriefBuilder$View" "lost" "[Z" ∈ wsX8_citation) (fun _ h9 => h9) rfl dX8_citation_123 rfl ?_
        refine z_iload 128 K dX8_citation_126 rfl 0 rfl ?_
        refine z_zald (f := lo) 129 K 17 (by decide) hLo (by omega) (by omega) (by decide) dX8_citation_128 rfl ?_
        have hl9 := hVR.2.2.2 (6 * a + b)
        refine z_bool01 132 133 136 137 K (by omega) dX8_citation_129 dX8_citation_132 dX8_citation_133 dX8_citation_136 rfl rfl (by decide) (by decide) rfl ?_
        exact z_iret K rfl dX8_citation_137 ⟨rfl, by rw [if_pos (by omega)]; unfold sOfC; rw [if_neg (by omega), if_neg (by omega), if_neg (by omega), if_pos (by omega)]; exact hv9.2⟩
      refine z_tableOut (tgt := 138) K dX8_citation_49 (by omega) (by omega) (by decide) ?_
      refine z_aload_n 139 K dX8_citation_138 rfl rfl 1 rfl ?_
      refine z_iload 141 K dX8_citation_139 rfl 0 rfl ?_
      refine z_vVi (As := [.int (iZ (6 * a + b))]) (rest := []) 144 K 0 (by decide) hMa rfl rfl (m_X8_pageInBrief l g _ (6 * a + b) cc cp (sBds f) vf lt lo hMa hSt hCi hCc hCp hVw hVf hLe hLo (by omega) hVR.2.2.1 hVR.2.2.2) (cwV 1 K.1.2.2.2.2 gX8_citation_X8_pageInBrief rfl rfl rfl (by decide +kernel) ⟨Nat.le_of_ble_eq_true rfl, Nat.le_of_ble_eq_true rfl⟩) rfl (Nat.le_of_ble_eq_true rfl) dX8_citation_141 rfl ⟨Nat.le_of_ble_eq_true rfl, Nat.le_of_ble_eq_true rfl⟩ rfl (fun z_7 C_8 hp_141 => ?_)
      refine z_C hp_141.1 ?_
      refine z_top (if lt (6 * a + b) = -1 ∨ lo (6 * a + b) ≠ 0 then -1 else vf (lt (6 * a + b)) + cp (6 * a + b) - 1) hp_141.2 ?_
      have e9 : (if b < f (32 * a + 65) then sOfC f a b w else -1) = sOfC f a b w := if_pos hb9
      have e8 : sOfC f a b w = (if sLost f a b = true then -1 else zFp (sPg f) (f 0) (sLet f a b) + f (32 * a + 2 * b + 67) - 1) := by unfold sOfC; rw [if_neg (by omega), if_neg (by omega), if_neg (by omega), if_neg (by omega)]
      exact z_iret K rfl dX8_citation_144 ⟨rfl, by rw [e9, e8]; exact cit_page hR hVR hw hq.1.1 hq.1.2 hq.2.1 hb9⟩
    · skip
      refine z_iconst 40 K dX8_citation_39 rfl ?_
      exact z_iret K rfl dX8_citation_40 ⟨rfl, by rw [if_neg (by omega)]⟩
  · skip
    exact absurd hq (by omega)
set_option maxHeartbeats 4000000 in
set_option maxRecDepth 100000 in
theorem x_X8_paragraph (l : Launch) (g : zG) (C : Nat → va_E) (a : Int) (w : Int) (f : Int → Int) (past : Int → Int) (tx : Int → Int) (k : Int) (ty : Int) (cap : Int) (hI : IW g C f k past ty tx) (hP : PW cap f k past ty tx) (h_a : -2147483648 ≤ a ∧ a < 2147483648) (h_w : -2147483648 ≤ w ∧ w < 2147483648) (hk9 : kPrg a w ≠ 0) (hlt : l.stackTraces = false) : vx_Met l yX8_paragraph wsX8_paragraph ({ frames := 7, cells := 2, slots := 12, locals := 103 } : Room) (zPre g C [.ref (aD g 0), .int (iZ a), .int (iZ w)]) (zQi g (fun z C' => False)) (zX g (fun E C' => IW g C' f k past ty tx ∧ zSame C C' ∧ ((E = "java/lang/IndexOutOfBoundsException" ∧ kPrg a w = 1) ∨ (E = "java/lang/IllegalArgumentException" ∧ kPrg a w = 2)))) 2 12 (zA g) := by
  refine z_enterX RX8 rfl (by decide) rfl (Nat.le_of_ble_eq_true rfl) ?_
  intro p e s m args below meth c K harg hne
  refine z_sub (lv' := [(0, .ref (aD g 0)), (1, .int (iZ a)), (2, .int (iZ w))]) [0, 1, 2] rfl ?_
  have hI0 := hI
  obtain ⟨hB, hL, hV, hT, hH, hX⟩ := hI
  obtain ⟨hMa, hSp⟩ := id hB
  obtain ⟨num, pgs, cc, cn, cp, pn, pm, ⟨hSt, hEx, hNum, hPgs, hCi, hCc, hCn, hCp, hPr, hPc, hPm⟩, hR⟩ := id hL
  obtain ⟨vb, vt, vf, lt, lo, ⟨hVw, hVb, hVt, hVf, hLe, hLo⟩, hVR⟩ := id hV
  obtain ⟨tc, np, tp, hTr, hTn, hTp, hnp⟩ := id hT
  obtain ⟨cur, stp, pl, px, hTx, hXc, hXl, hXp, hpx⟩ := id hX
  obtain ⟨old, hHi, hHs, hho, -, -⟩ := id hH
  obtain ⟨hw, hk, hpst, hty, htxr, hrtx, hrp, hcap⟩ := id hP
  have hn := hw.n
  have hnx := hw.nx
  have hbp := hw.bp
  refine z_iload_n 1 K dX8_paragraph_0 rfl rfl 1 rfl ?_
  refine z_xSv (As := [.int (iZ a)]) (rest := []) 4 K (m_X8_checkParagraph l g _ a (by omega) hlt) (va_cwS 1 K.1.2.2.2.2 gX8_paragraph_X8_checkParagraph rfl rfl rfl (by decide +kernel) ⟨Nat.le_of_ble_eq_true rfl, Nat.le_of_ble_eq_true rfl⟩) rfl (Nat.le_of_ble_eq_true rfl) dX8_paragraph_1 rfl ⟨Nat.le_of_ble_eq_true rfl, Nat.le_of_ble_eq_true rfl⟩ rfl (fun E9 C9 hx9 => ?_) (fun C_2 hp_1 => ?_)
  · obtain ⟨hE9, rfl, hx9⟩ := hx9
    exact z_out hne K (Nat.le_of_ble_eq_true rfl) (Nat.le_of_ble_eq_true rfl) ⟨hI0, zSame_rf _, Or.inl ⟨hE9, (by unfold kPrg; repeat (first | omega | split))⟩⟩
  obtain ⟨hC_1, hc_1⟩ := hp_1
  refine z_C hC_1 ?_
  refine z_iload_n 5 K dX8_paragraph_4 rfl rfl 2 rfl ?_
  refine z_iconst 6 K dX8_paragraph_5 rfl ?_
  refine z_xSv (As := [.int (iZ w), .int (iZ 3)]) (rest := []) 9 K (m_X8_checkWhat l g _ w 3 (by omega) (by omega) hlt) (va_cwS 2 K.1.2.2.2.2 gX8_paragraph_X8_checkWhat rfl rfl rfl (by decide +kernel) ⟨Nat.le_of_ble_eq_true rfl, Nat.le_of_ble_eq_true rfl⟩) rfl (Nat.le_of_ble_eq_true rfl) dX8_paragraph_6 rfl ⟨by simp only []; omega, by simp only []; omega⟩ rfl (fun E9 C9 hx9 => ?_) (fun C_4 hp_6 => ?_)
  · obtain ⟨hE9, rfl, hx9⟩ := hx9
    exact z_out hne K (Nat.le_of_ble_eq_true rfl) (Nat.le_of_ble_eq_true rfl) ⟨hI0, zSame_rf _, Or.inr (⟨hE9, (by unfold kPrg; repeat (first | omega | split))⟩)⟩
  obtain ⟨hC_6, hc_6⟩ := hp_6
  refine z_C hC_6 ?_
  exact absurd (by unfold kPrg; repeat (first | omega | split)) hk9
set_option maxRecDepth 20000 in
theorem hin_X8_paragraph_X0 : ∀ w ∈ wsX00, w ∈ wsX8_paragraph := by decide +kernel
set_option maxRecDepth 20000 in
theorem hin_X8_paragraph_X3 : ∀ w ∈ wsX30, w ∈ wsX8_paragraph := by decide +kernel
set_option maxRecDepth 20000 in
theorem hin_X8_paragraph_X4 : ∀ w ∈ wsX40, w ∈ wsX8_paragraph := by decide +kernel
set_option maxRecDepth 20000 in
theorem hin_X8_paragraph_X8 : ∀ w ∈ wsX80, w ∈ wsX8_paragraph := by decide +kernel
set_option maxHeartbeats 4000000 in
set_option maxRecDepth 100000 in
theorem a_X8_paragraph (l : Launch) (g : zG) (C : Nat → va_E) (a : Int) (w : Int) (f : Int → Int) (past : Int → Int) (tx : Int → Int) (k : Int) (ty : Int) (cap : Int) (hI : IW g C f k past ty tx) (hP : PW cap f k past ty tx) (h_a : -2147483648 ≤ a ∧ a < 2147483648) (h_w : -2147483648 ≤ w ∧ w < 2147483648) (hk9 : kPrg a w = 0) : Met l yX8_paragraph wsX8_paragraph ({ frames := 2, cells := 0, slots := 0, locals := 50 } : Room) (zPre g C [.ref (aD g 0), .int (iZ a), .int (iZ w)]) (zQi g (fun z C' => C' = C ∧ z = sOfP f a w)) 0 0 (zA g) := by
  refine z_enter RX8 rfl (by decide) rfl (Nat.le_of_ble_eq_true rfl) ?_
  intro p e s m args below meth c K harg
  refine z_sub (lv' := [(0, .ref (aD g 0)), (1, .int (iZ a)), (2, .int (iZ w))]) [0, 1, 2] rfl ?_
  have hI0 := hI
  obtain ⟨hB, hL, hV, hT, hH, hX⟩ := hI
  obtain ⟨hMa, hSp⟩ := id hB
  obtain ⟨num, pgs, cc, cn, cp, pn, pm, ⟨hSt, hEx, hNum, hPgs, hCi, hCc, hCn, hCp, hPr, hPc, hPm⟩, hR⟩ := id hL
  obtain ⟨vb, vt, vf, lt, lo, ⟨hVw, hVb, hVt, hVf, hLe, hLo⟩, hVR⟩ := id hV
  obtain ⟨tc, np, tp, hTr, hTn, hTp, hnp⟩ := id hT
  obtain ⟨cur, stp, pl, px, hTx, hXc, hXl, hXp, hpx⟩ := id hX
  obtain ⟨old, hHi, hHs, hho, -, -⟩ := id hH
  obtain ⟨hw, hk, hpst, hty, htxr, hrtx, hrp, hcap⟩ := id hP
  have hn := hw.n
  have hnx := hw.nx
  have hbp := hw.bp
  have hq : (0 ≤ a ∧ a < 12) ∧ 0 ≤ w ∧ w ≤ 3 := by
    unfold kPrg at hk9
    repeat (first | omega | split at hk9)
  have hpa := hw.pa a (by omega) (by omega)
  have hca := hR.pa a (by omega) (by omega)
  refine z_iload_n 1 K dX8_paragraph_0 rfl rfl 1 rfl ?_
  refine z_vSv (As := [.int (iZ a)]) (rest := []) 4 K (n_X8_checkParagraph l g _ a (by omega) (by omega)) (va_cwS 1 K.1.2.2.2.2 gX8_paragraph_X8_checkParagraph rfl rfl rfl (by decide +kernel) ⟨Nat.le_of_ble_eq_true rfl, Nat.le_of_ble_eq_true rfl⟩) rfl (Nat.le_of_ble_eq_true rfl) dX8_paragraph_1 rfl ⟨Nat.le_of_ble_eq_true rfl, Nat.le_of_ble_eq_true rfl⟩ rfl (fun C_2 hp_1 => ?_)
  refine z_C hp_1 ?_
  refine z_iload_n 5 K dX8_paragraph_4 rfl rfl 2 rfl ?_
  refine z_iconst 6 K dX8_paragraph_5 rfl ?_
  refine z_vSv (As := [.int (iZ w), .int (iZ 3)]) (rest := []) 9 K (n_X8_checkWhat l g _ w 3 (by omega) (by omega) (by omega)) (va_cwS 2 K.1.2.2.2.2 gX8_paragraph_X8_checkWhat rfl rfl rfl (by decide +kernel) ⟨Nat.le_of_ble_eq_true rfl, Nat.le_of_ble_eq_true rfl⟩) rfl (Nat.le_of_ble_eq_true rfl) dX8_paragraph_6 rfl ⟨Nat.le_of_ble_eq_true rfl, Nat.le_of_ble_eq_true rfl⟩ rfl (fun C_4 hp_6 => ?_)
  refine z_C hp_6 ?_
  refine z_iload_n 10 K dX8_paragraph_9 rfl rfl 2 rfl ?_
  by_cases sw_10_0 : w = 0
  · skip
    refine z_top (0) sw_10_0 ?_
    refine z_tableIn (tgt := 36) K dX8_paragraph_10 (by decide) (by decide) (by decide) rfl (by decide) ?_
    refine z_aload_n 37 K dX8_paragraph_36 rfl rfl 0 rfl ?_
    refine z_get 40 K hin_X8_paragraph_X8 0 (by decide) hMa rfl 0 (by decide) (by decide +kernel : Cond.fieldLink RX8 12 "BriefBuilder" "state" "LBriefBuilder$State;" ∈ wsX8_paragraph) (fun _ h9 => h9) rfl dX8_paragraph_37 rfl ?_
    refine z_get 43 K hin_X8_paragraph_X4 1 (by decide) hSt rfl 1 (by decide) (by decide +kernel : Cond.fieldLink RX8 111 "BriefBuilder$State" "citations" "LBriefBuilder$Citations;" ∈ wsX8_paragraph) (fun _ h9 => h9) rfl dX8_paragraph_40 rfl ?_
    refine z_get 46 K hin_X8_paragraph_X0 5 (by decide) hCi rfl 0 (by decide) (by decide +kernel : Cond.fieldLink RX8 131 "BriefBuilder$Citations" "counts" "[I" ∈ wsX8_paragraph) (fun _ h9 => h9) rfl dX8_paragraph_43 rfl ?_
    refine z_iload_n 47 K dX8_paragraph_46 rfl rfl 1 rfl ?_
    refine z_iald (f := cc) 48 K 6 (by decide) hCc (by omega) (by omega) (by decide) dX8_paragraph_47 rfl ?_
    exact z_iret K rfl dX8_paragraph_48 ⟨rfl, by unfold sOfP; rw [if_pos (by omega)]; exact hca.1⟩
  by_cases sw_10_1 : w = 1
  · skip
    refine z_top (1) sw_10_1 ?_
    refine z_tableIn (tgt := 49) K dX8_paragraph_10 (by decide) (by decide) (by decide) rfl (by decide) ?_
    refine z_aload_n 50 K dX8_paragraph_49 rfl rfl 0 rfl ?_
    refine z_iload_n 51 K dX8_paragraph_50 rfl rfl 1 rfl ?_
    refine z_vVi (As := [.int (iZ a)]) (rest := []) 54 K 0 (by decide) hMa rfl rfl (m_X8_lostIn l g _ a cc (sBds f) lo hMa hSt hCi hCc hVw hLo (by omega) (hR.hcc hw) hVR.2.2.2) (cwV 1 K.1.2.2.2.2 gX8_paragraph_X8_lostIn rfl rfl rfl (by decide +kernel) ⟨Nat.le_of_ble_eq_true rfl, Nat.le_of_ble_eq_true rfl⟩) rfl (Nat.le_of_ble_eq_true rfl) dX8_paragraph_51 rfl ⟨Nat.le_of_ble_eq_true rfl, Nat.le_of_ble_eq_true rfl⟩ rfl (fun z_5 C_6 hp_51 => ?_)
    refine z_C hp_51.1 ?_
    refine z_top (iLi cc lo a) hp_51.2 ?_
    exact z_iret K rfl dX8_paragraph_54 ⟨rfl, by unfold sOfP; rw [if_neg (by omega), if_pos (by omega)]; exact look_li hR hVR hw hq.1.1 hq.1.2⟩
  by_cases sw_10_2 : w = 2
  · skip
    refine z_top (2) sw_10_2 ?_
    refine z_tableIn (tgt := 55) K dX8_paragraph_10 (by decide) (by decide) (by decide) rfl (by decide) ?_
    refine z_aload_n 56 K dX8_paragraph_55 rfl rfl 0 rfl ?_
    refine z_iload_n 57 K dX8_paragraph_56 rfl rfl 1 rfl ?_
    refine z_aload_n 58 K dX8_paragraph_57 rfl rfl 0 rfl ?_
    refine z_get 61 K hin_X8_paragraph_X8 0 (by decide) hMa rfl 5 (by decide) (by decide +kernel : Cond.fieldLink RX8 44 "BriefBuilder" "samePlaces" "[I" ∈ wsX8_paragraph) (fun _ h9 => h9) rfl dX8_paragraph_58 rfl ?_
    refine z_vVi (As := [.int (iZ a), .ref (aD g 27)]) (rest := []) 64 K 0 (by decide) hMa rfl rfl (m_X8_isStale l g _ a 27 cc cp pn pm (sBds f) lt lo (fun k => k) hMa hSt hCi hCc hCp hPr hPc hPm hVw hLe hLo (by decide) hSp (by omega) (hR.hcc hw) hVR.2.2.1 hVR.2.2.2 (hR.hcp hw) (fun j j0 j1 => (⟨by omega, by omega⟩ : -1 ≤ j ∧ j ≤ 30)) hR.r3 hR.r4) (cwV 2 K.1.2.2.2.2 gX8_paragraph_X8_isStale rfl rfl rfl (by decide +kernel) ⟨Nat.le_of_ble_eq_true rfl, Nat.le_of_ble_eq_true rfl⟩) rfl (Nat.le_of_ble_eq_true rfl) dX8_paragraph_61 rfl ⟨Nat.le_of_ble_eq_true rfl, Nat.le_of_ble_eq_true rfl⟩ rfl (fun z_7 C_8 hp_61 => ?_)
    refine z_C hp_61.1 ?_
    refine z_top (b2i (iSt (fun k => k) lt lo cc cp pn pm a)) hp_61.2 ?_
    refine z_bool01 67 68 71 72 K (b2i_rng _) dX8_paragraph_64 dX8_paragraph_67 dX8_paragraph_68 dX8_paragraph_71 rfl rfl (by decide) (by decide) rfl ?_
    exact z_iret K rfl dX8_paragraph_72 ⟨rfl, by unfold sOfP; rw [if_neg (by omega), if_neg (by omega), if_pos (by omega), stale_same hR hVR hw hq.1.1 hq.1.2]⟩
  refine z_tableOut (tgt := 73) K dX8_paragraph_10 (by omega) (by omega) (by decide) ?_
  refine z_aload_n 74 K dX8_paragraph_73 rfl rfl 0 rfl ?_
  refine z_get 77 K hin_X8_paragraph_X8 0 (by decide) hMa rfl 0 (by decide) (by decide +kernel : Cond.fieldLink RX8 12 "BriefBuilder" "state" "LBriefBuilder$State;" ∈ wsX8_paragraph) (fun _ h9 => h9) rfl dX8_paragraph_74 rfl ?_
  refine z_get 80 K hin_X8_paragraph_X4 1 (by decide) hSt rfl 2 (by decide) (by decide +kernel : Cond.fieldLink RX8 151 "BriefBuilder$State" "prints" "LBriefBuilder$Prints;" ∈ wsX8_paragraph) (fun _ h9 => h9) rfl dX8_paragraph_77 rfl ?_
  refine z_get 83 K hin_X8_paragraph_X3 9 (by decide) hPr rfl 0 (by decide) (by decide +kernel : Cond.fieldLink RX8 155 "BriefBuilder$Prints" "counts" "[I" ∈ wsX8_paragraph) (fun _ h9 => h9) rfl dX8_paragraph_80 rfl ?_
  refine z_iload_n 84 K dX8_paragraph_83 rfl rfl 1 rfl ?_
  refine z_iald (f := pn) 85 K 10 (by decide) hPc (by omega) (by omega) (by decide) dX8_paragraph_84 rfl ?_
  exact z_iret K rfl dX8_paragraph_85 ⟨rfl, by unfold sOfP; rw [if_neg (by omega), if_neg (by omega), if_neg (by omega)]; exact hca.2⟩
set_option maxHeartbeats 4000000 in
set_option maxRecDepth 100000 in
theorem x_X8_table (l : Launch) (g : zG) (C : Nat → va_E) (p0 : Int) (f : Int → Int) (past : Int → Int) (tx : Int → Int) (k : Int) (ty : Int) (cap : Int) (hI : IW g C f k past ty tx) (hP : PW cap f k past ty tx) (h_p0 : -2147483648 ≤ p0 ∧ p0 < 2147483648) (hk9 : kPl f p0 ≠ 0) (hlt : l.stackTraces = false) : vx_Met l yX8_table wsX8_table ({ frames := 7, cells := 1, slots := 6, locals := 103 } : Room) (zPre g C [.ref (aD g 0), .int (iZ p0)]) (zQi g (fun z C' => False)) (zX g (fun E C' => IW g C' f k past ty tx ∧ zSame C C' ∧ ((E = "java/lang/IndexOutOfBoundsException" ∧ kPl f p0 = 1)))) 1 6 (zA g) := by
  refine z_enterX RX8 rfl (by decide) rfl (Nat.le_of_ble_eq_true rfl) ?_
  intro p e s m args below meth c K harg hne
  refine z_sub (lv' := [(0, .ref (aD g 0)), (1, .int (iZ p0))]) [0, 1] rfl ?_
  have hI0 := hI
  obtain ⟨hB, hL, hV, hT, hH, hX⟩ := hI
  obtain ⟨hMa, hSp⟩ := id hB
  obtain ⟨num, pgs, cc, cn, cp, pn, pm, ⟨hSt, hEx, hNum, hPgs, hCi, hCc, hCn, hCp, hPr, hPc, hPm⟩, hR⟩ := id hL
  obtain ⟨vb, vt, vf, lt, lo, ⟨hVw, hVb, hVt, hVf, hLe, hLo⟩, hVR⟩ := id hV
  obtain ⟨tc, np, tp, hTr, hTn, hTp, hnp⟩ := id hT
  obtain ⟨cur, stp, pl, px, hTx, hXc, hXl, hXp, hpx⟩ := id hX
  obtain ⟨old, hHi, hHs, hho, -, -⟩ := id hH
  obtain ⟨hw, hk, hpst, hty, htxr, hrtx, hrp, hcap⟩ := id hP
  have hn := hw.n
  have hnx := hw.nx
  have hbp := hw.bp
  refine z_aload_n 1 K dX8_table_0 rfl rfl 0 rfl ?_
  refine z_iload_n 2 K dX8_table_1 rfl rfl 1 rfl ?_
  refine z_xVv (As := [.int (iZ p0)]) (rest := []) 5 K 0 (by decide) hMa rfl rfl (m_X8_checkPlace l g _ p0 (f 1) (f 2) (f 0) hMa hSt hEx (by omega) (by omega) hlt) (cwV 1 K.1.2.2.2.2 gX8_table_X8_checkPlace rfl rfl rfl (by decide +kernel) ⟨Nat.le_of_ble_eq_true rfl, Nat.le_of_ble_eq_true rfl⟩) rfl (Nat.le_of_ble_eq_true rfl) dX8_table_2 rfl ⟨Nat.le_of_ble_eq_true rfl, Nat.le_of_ble_eq_true rfl⟩ rfl (fun E9 C9 hx9 => ?_) (fun C_2 hp_2 => ?_)
  · obtain ⟨hE9, rfl, hx9⟩ := hx9
    exact z_out hne K (Nat.le_of_ble_eq_true rfl) (Nat.le_of_ble_eq_true rfl) ⟨hI0, zSame_rf _, ⟨hE9, (by unfold kPl; repeat (first | omega | split))⟩⟩
  obtain ⟨hC_2, hc_2⟩ := hp_2
  refine z_C hC_2 ?_
  exact absurd (by unfold kPl; repeat (first | omega | split)) hk9
set_option maxHeartbeats 4000000 in
set_option maxRecDepth 100000 in
theorem a_X8_table (l : Launch) (g : zG) (C : Nat → va_E) (p0 : Int) (f : Int → Int) (past : Int → Int) (tx : Int → Int) (k : Int) (ty : Int) (cap : Int) (hI : IW g C f k past ty tx) (hP : PW cap f k past ty tx) (h_p0 : -2147483648 ≤ p0 ∧ p0 < 2147483648) (hk9 : kPl f p0 = 0) : Met l yX8_table wsX8_table ({ frames := 2, cells := 0, slots := 0, locals := 46 } : Room) (zPre g C [.ref (aD g 0), .int (iZ p0)]) (zQi g (fun z C' => C' = C ∧ z = sRow f p0)) 0 0 (zA g) := by
  refine z_enter RX8 rfl (by decide) rfl (Nat.le_of_ble_eq_true rfl) ?_
  intro p e s m args below meth c K harg
  refine z_sub (lv' := [(0, .ref (aD g 0)), (1, .int (iZ p0))]) [0, 1] rfl ?_
  have hI0 := hI
  obtain ⟨hB, hL, hV, hT, hH, hX⟩ := hI
  obtain ⟨hMa, hSp⟩ := id hB
  obtain ⟨num, pgs, cc, cn, cp, pn, pm, ⟨hSt, hEx, hNum, hPgs, hCi, hCc, hCn, hCp, hPr, hPc, hPm⟩, hR⟩ := id hL
  obtain ⟨vb, vt, vf, lt, lo, ⟨hVw, hVb, hVt, hVf, hLe, hLo⟩, hVR⟩ := id hV
  obtain ⟨tc, np, tp, hTr, hTn, hTp, hnp⟩ := id hT
  obtain ⟨cur, stp, pl, px, hTx, hXc, hXl, hXp, hpx⟩ := id hX
  obtain ⟨old, hHi, hHs, hho, -, -⟩ := id hH
  obtain ⟨hw, hk, hpst, hty, htxr, hrtx, hrp, hcap⟩ := id hP
  have hn := hw.n
  have hnx := hw.nx
  have hbp := hw.bp
  have hq : 0 ≤ p0 ∧ p0 < f 1 := by
    unfold kPl at hk9
    repeat (first | omega | split at hk9)
  refine z_aload_n 1 K dX8_table_0 rfl rfl 0 rfl ?_
  refine z_iload_n 2 K dX8_table_1 rfl rfl 1 rfl ?_
  refine z_vVv (As := [.int (iZ p0)]) (rest := []) 5 K 0 (by decide) hMa rfl rfl (n_X8_checkPlace l g _ p0 (f 1) (f 2) (f 0) hMa hSt hEx (by omega) (by omega) (by omega)) (cwV 1 K.1.2.2.2.2 gX8_table_X8_checkPlace rfl rfl rfl (by decide +kernel) ⟨Nat.le_of_ble_eq_true rfl, Nat.le_of_ble_eq_true rfl⟩) rfl (Nat.le_of_ble_eq_true rfl) dX8_table_2 rfl ⟨Nat.le_of_ble_eq_true rfl, Nat.le_of_ble_eq_true rfl⟩ rfl (fun C_2 hp_2 => ?_)
  refine z_C hp_2 ?_
  refine z_iconst 6 K dX8_table_5 rfl ?_
  refine z_istore_n (lv' := [(2, .int (iZ 0)), (0, .ref (aD g 0)), (1, .int (iZ p0))]) 7 K dX8_table_6 rfl rfl (by decide) rfl ?_
  refine z_iconst 8 K dX8_table_7 rfl ?_
  refine z_istore_n (lv' := [(3, .int (iZ 0)), (2, .int (iZ 0)), (0, .ref (aD g 0)), (1, .int (iZ p0))]) 9 K dX8_table_8 rfl rfl (by decide) rfl ?_
  have loop_9 : ∀ (n9 : Nat) (mk a : Int), (0 ≤ a ∧ a ≤ 12) → (mk = sMk f p0 a) → (12 - a < (n9 : Int)) → Z p l e (({ frames := 2, cells := 0, slots := 0, locals := 46 } : Room)) s m args below meth c (MQ below (zQi g (fun z C' => C' = C ∧ z = sRow f p0)) args s 0 0 (zA g)) g 4 0 0 (C) [(0, .ref (aD g 0)), (1, .int (iZ p0)), (2, .int (iZ mk)), (3, .int (iZ a))] 9 [] := by
    intro n9
    induction n9 with
    | zero =>
      intro mk a hka hm1 hm9
      exact absurd hm9 (by omega)
    | succ n9 ih9 =>
      intro mk a hka hm1 hm_9
      have ih_9 := ih9
      clear ih9
      refine z_iload_n 10 K dX8_table_9 rfl rfl 3 rfl ?_
      refine z_bipush 12 K dX8_table_10 rfl rfl ?_
      refine z_icmp_ge (tgt := 36) 15 K dX8_table_12 rfl (by decide) (by omega) (by decide) (fun c_12 => ?_) (fun c_12 => ?_)
      · skip
        refine z_iload_n 37 K dX8_table_36 rfl rfl 2 rfl ?_
        exact z_iret K rfl dX8_table_37 ⟨rfl, by rw [hm1, show a = 12 by omega]; rfl⟩
      · skip
        refine z_aload_n 16 K dX8_table_15 rfl rfl 0 rfl ?_
        refine z_iload_n 17 K dX8_table_16 rfl rfl 3 rfl ?_
        refine z_iload_n 18 K dX8_table_17 rfl rfl 1 rfl ?_
        refine z_vVi (As := [.int (iZ a), .int (iZ p0)]) (rest := []) 21 K 0 (by decide) hMa rfl rfl (m_X8_goodCitationsIn l g _ a p0 cc (sBds f) lt lo hMa hSt hCi hCc hVw hLe hLo (by omega) (hR.hcc hw) hVR.2.2.1 hVR.2.2.2 (by omega)) (cwV 2 K.1.2.2.2.2 gX8_table_X8_goodCitationsIn rfl rfl rfl (by decide +kernel) ⟨Nat.le_of_ble_eq_true rfl, Nat.le_of_ble_eq_true rfl⟩) rfl (Nat.le_of_ble_eq_true rfl) dX8_table_18 rfl ⟨Nat.le_of_ble_eq_true rfl, Nat.le_of_ble_eq_true rfl⟩ rfl (fun z_3 C_4 hp_18 => ?_)
        refine z_C hp_18.1 ?_
        refine z_top (iGi cc lt lo a p0) hp_18.2 ?_
        have hgi := look_gi (p := p0) hR hVR hw hka.1 (show a < 12 by omega)
        have hgr := iGi_rng (lt := lt) (lo := lo) (a := a) (p := p0) (hR.hcc hw a hka.1 (by omega))
        have hmr := sMk_rng' f p0 hka.1
        have hzr := zp2_rng hka.1 (show a < 12 by omega)
        have es : sMk f p0 (a + 1) = sMk f p0 a + zp2 a * b2i (zany (fun b => sTb f p0 a b) (f (32 * a + 65))) := by
          unfold sMk
          rw [zsum_1 _ hka.1]
        refine z_if_le (tgt := 30) 24 K dX8_table_21 rfl (by decide) (by omega) (fun c_21 => ?_) (fun c_21 => ?_)
        · have hm2 : mk = sMk f p0 (a + 1) := by rw [es, show zany (fun b => sTb f p0 a b) (f (32 * a + 65)) = false from Bool.not_eq_true _ ▸ (fun z => absurd (hgi.mpr z) (by omega)), b2i_f, hm1]; omega
          refine z_iinc (lv' := [(3, .int (iZ (a + 1))), (0, .ref (aD g 0)), (1, .int (iZ p0)), (2, .int (iZ mk))]) 33 K dX8_table_30 rfl (a + 1) rfl 3 rfl (by decide) rfl ?_
          refine z_goto (tgt := 9) K dX8_table_33 (by decide) ?_
          refine z_sub [1, 2, 3, 0] rfl ?_
          exact ih_9 mk (a + 1) (by omega) hm2 (by omega)
        · have hz9 : zany (fun b => sTb f p0 a b) (f (32 * a + 65)) = true := hgi.mp (by omega)
          refine z_iload_n 25 K dX8_table_24 rfl rfl 2 rfl ?_
          refine z_iconst 26 K dX8_table_25 rfl ?_
          refine z_iload_n 27 K dX8_table_26 rfl rfl 3 rfl ?_
          refine z_ishl 28 K dX8_table_27 rfl ?_
          refine z_ior 29 K dX8_table_28 rfl ?_
          refine z_raw (sMk f p0 (a + 1)) (by rw [zp2_shl hka.1 (by omega), hm1, es, hz9, b2i_t, show zp2 a * 1 = zp2 a by omega]; have q := zor_step hka.1 (show a < 12 by omega) hmr false true; rw [b2i_f, b2i_t, Bool.false_or, b2i_t] at q; rw [show sMk f p0 a + zp2 a * 0 = sMk f p0 a by omega, show zp2 a * 1 = zp2 a by omega] at q; exact q) ?_
          have hm2 : sMk f p0 (a + 1) = sMk f p0 (a + 1) := rfl
          refine z_istore_n (lv' := [(2, .int (iZ (sMk f p0 (a + 1)))), (0, .ref (aD g 0)), (1, .int (iZ p0)), (3, .int (iZ a))]) 30 K dX8_table_29 rfl rfl (by decide) rfl ?_
          refine z_iinc (lv' := [(3, .int (iZ (a + 1))), (2, .int (iZ (sMk f p0 (a + 1)))), (0, .ref (aD g 0)), (1, .int (iZ p0))]) 33 K dX8_table_30 rfl (a + 1) rfl 3 rfl (by decide) rfl ?_
          refine z_goto (tgt := 9) K dX8_table_33 (by decide) ?_
          refine z_sub [2, 3, 1, 0] rfl ?_
          exact ih_9 (sMk f p0 (a + 1)) (a + 1) (by omega) hm2 (by omega)
  refine z_sub [2, 3, 1, 0] rfl ?_
  exact loop_9 (Int.toNat (12 - 0) + 1) 0 0 (by omega) rfl (by omega)
set_option maxHeartbeats 4000000 in
set_option maxRecDepth 100000 in
theorem x_X8_count (l : Launch) (g : zG) (C : Nat → va_E) (w : Int) (f : Int → Int) (past : Int → Int) (tx : Int → Int) (k : Int) (ty : Int) (cap : Int) (hI : IW g C f k past ty tx) (hP : PW cap f k past ty tx) (h_w : -2147483648 ≤ w ∧ w < 2147483648) (hk9 : kCnt w ≠ 0) (hlt : l.stackTraces = false) : vx_Met l yX8_count wsX8_count ({ frames := 7, cells := 1, slots := 6, locals := 103 } : Room) (zPre g C [.ref (aD g 0), .int (iZ w)]) (zQi g (fun z C' => False)) (zX g (fun E C' => IW g C' f k past ty tx ∧ zSame C C' ∧ ((E = "java/lang/IllegalArgumentException" ∧ kCnt w = 1)))) 1 6 (zA g) := by
  refine z_enterX RX8 rfl (by decide) rfl (Nat.le_of_ble_eq_true rfl) ?_
  intro p e s m args below meth c K harg hne
  refine z_sub (lv' := [(0, .ref (aD g 0)), (1, .int (iZ w))]) [0, 1] rfl ?_
  have hI0 := hI
  obtain ⟨hB, hL, hV, hT, hH, hX⟩ := hI
  obtain ⟨hMa, hSp⟩ := id hB
  obtain ⟨num, pgs, cc, cn, cp, pn, pm, ⟨hSt, hEx, hNum, hPgs, hCi, hCc, hCn, hCp, hPr, hPc, hPm⟩, hR⟩ := id hL
  obtain ⟨vb, vt, vf, lt, lo, ⟨hVw, hVb, hVt, hVf, hLe, hLo⟩, hVR⟩ := id hV
  obtain ⟨tc, np, tp, hTr, hTn, hTp, hnp⟩ := id hT
  obtain ⟨cur, stp, pl, px, hTx, hXc, hXl, hXp, hpx⟩ := id hX
  obtain ⟨old, hHi, hHs, hho, -, -⟩ := id hH
  obtain ⟨hw, hk, hpst, hty, htxr, hrtx, hrp, hcap⟩ := id hP
  have hn := hw.n
  have hnx := hw.nx
  have hbp := hw.bp
  refine z_iload_n 1 K dX8_count_0 rfl rfl 1 rfl ?_
  refine z_bipush 3 K dX8_count_1 rfl rfl ?_
  refine z_xSv (As := [.int (iZ w), .int (iZ 8)]) (rest := []) 6 K (m_X8_checkWhat l g _ w 8 (by omega) (by omega) hlt) (va_cwS 2 K.1.2.2.2.2 gX8_count_X8_checkWhat rfl rfl rfl (by decide +kernel) ⟨Nat.le_of_ble_eq_true rfl, Nat.le_of_ble_eq_true rfl⟩) rfl (Nat.le_of_ble_eq_true rfl) dX8_count_3 rfl ⟨Nat.le_of_ble_eq_true rfl, Nat.le_of_ble_eq_true rfl⟩ rfl (fun E9 C9 hx9 => ?_) (fun C_2 hp_3 => ?_)
  · obtain ⟨hE9, rfl, hx9⟩ := hx9
    exact z_out hne K (Nat.le_of_ble_eq_true rfl) (Nat.le_of_ble_eq_true rfl) ⟨hI0, zSame_rf _, ⟨hE9, (by unfold kCnt; repeat (first | omega | split))⟩⟩
  obtain ⟨hC_3, hc_3⟩ := hp_3
  refine z_C hC_3 ?_
  exact absurd (by unfold kCnt; repeat (first | omega | split)) hk9
set_option maxRecDepth 20000 in
theorem hin_X8_count_X1 : ∀ w ∈ wsX10, w ∈ wsX8_count := by decide +kernel
set_option maxRecDepth 20000 in
theorem hin_X8_count_X2 : ∀ w ∈ wsX20, w ∈ wsX8_count := by decide +kernel
set_option maxRecDepth 20000 in
theorem hin_X8_count_X4 : ∀ w ∈ wsX40, w ∈ wsX8_count := by decide +kernel
set_option maxRecDepth 20000 in
theorem hin_X8_count_X7 : ∀ w ∈ wsX70, w ∈ wsX8_count := by decide +kernel
set_option maxRecDepth 20000 in
theorem hin_X8_count_X8 : ∀ w ∈ wsX80, w ∈ wsX8_count := by decide +kernel
set_option maxHeartbeats 4000000 in
set_option maxRecDepth 100000 in
theorem a_X8_count (l : Launch) (g : zG) (C : Nat → va_E) (w : Int) (f : Int → Int) (past : Int → Int) (tx : Int → Int) (k : Int) (ty : Int) (cap : Int) (hI : IW g C f k past ty tx) (hP : PW cap f k past ty tx) (h_w : -2147483648 ≤ w ∧ w < 2147483648) (hk9 : kCnt w = 0) : Met l yX8_count wsX8_count ({ frames := 4, cells := 0, slots := 0, locals := 91 } : Room) (zPre g C [.ref (aD g 0), .int (iZ w)]) (zQi g (fun z C' => C' = C ∧ z = sCnt f k w)) 0 0 (zA g) := by
  refine z_enter RX8 rfl (by decide) rfl (Nat.le_of_ble_eq_true rfl) ?_
  intro p e s m args below meth c K harg
  refine z_sub (lv' := [(0, .ref (aD g 0)), (1, .int (iZ w))]) [0, 1] rfl ?_
  have hI0 := hI
  obtain ⟨hB, hL, hV, hT, hH, hX⟩ := hI
  obtain ⟨hMa, hSp⟩ := id hB
  obtain ⟨num, pgs, cc, cn, cp, pn, pm, ⟨hSt, hEx, hNum, hPgs, hCi, hCc, hCn, hCp, hPr, hPc, hPm⟩, hR⟩ := id hL
  obtain ⟨vb, vt, vf, lt, lo, ⟨hVw, hVb, hVt, hVf, hLe, hLo⟩, hVR⟩ := id hV
  obtain ⟨tc, np, tp, hTr, hTn, hTp, hnp⟩ := id hT
  obtain ⟨cur, stp, pl, px, hTx, hXc, hXl, hXp, hpx⟩ := id hX
  obtain ⟨old, hHi, hHs, hho, -, -⟩ := id hH
  obtain ⟨hw, hk, hpst, hty, htxr, hrtx, hrp, hcap⟩ := id hP
  have hn := hw.n
  have hnx := hw.nx
  have hbp := hw.bp
  have hq : 0 ≤ w ∧ w ≤ 8 := by
    unfold kCnt at hk9
    repeat (first | omega | split at hk9)
  refine z_iload_n 1 K dX8_count_0 rfl rfl 1 rfl ?_
  refine z_bipush 3 K dX8_count_1 rfl rfl ?_
  refine z_vSv (As := [.int (iZ w), .int (iZ 8)]) (rest := []) 6 K (n_X8_checkWhat l g _ w 8 (by omega) (by omega) (by omega)) (va_cwS 2 K.1.2.2.2.2 gX8_count_X8_checkWhat rfl rfl rfl (by decide +kernel) ⟨Nat.le_of_ble_eq_true rfl, Nat.le_of_ble_eq_true rfl⟩) rfl (Nat.le_of_ble_eq_true rfl) dX8_count_3 rfl ⟨Nat.le_of_ble_eq_true rfl, Nat.le_of_ble_eq_true rfl⟩ rfl (fun C_2 hp_3 => ?_)
  refine z_C hp_3 ?_
  refine z_iload_n 7 K dX8_count_6 rfl rfl 1 rfl ?_
  by_cases sw_7_0 : w = 0
  · skip
    refine z_top (0) sw_7_0 ?_
    refine z_tableIn (tgt := 52) K dX8_count_7 (by decide) (by decide) (by decide) rfl (by decide) ?_
    refine z_aload_n 53 K dX8_count_52 rfl rfl 0 rfl ?_
    refine z_get 56 K hin_X8_count_X8 0 (by decide) hMa rfl 0 (by decide) (by decide +kernel : Cond.fieldLink RX8 12 "BriefBuilder" "state" "LBriefBuilder$State;" ∈ wsX8_count) (fun _ h9 => h9) rfl dX8_count_53 rfl ?_
    refine z_get 59 K hin_X8_count_X4 1 (by decide) hSt rfl 0 (by decide) (by decide +kernel : Cond.fieldLink RX8 48 "BriefBuilder$State" "exhibits" "LBriefBuilder$Exhibits;" ∈ wsX8_count) (fun _ h9 => h9) rfl dX8_count_56 rfl ?_
    refine z_get 62 K hin_X8_count_X1 2 (by decide) hEx rfl 2 (by decide) (by decide +kernel : Cond.fieldLink RX8 95 "BriefBuilder$Exhibits" "count" "I" ∈ wsX8_count) (fun _ h9 => h9) rfl dX8_count_59 rfl ?_
    exact z_iret K rfl dX8_count_62 ⟨rfl, by unfold sCnt; rw [if_pos (by omega)]⟩
  by_cases sw_7_1 : w = 1
  · skip
    refine z_top (1) sw_7_1 ?_
    refine z_tableIn (tgt := 63) K dX8_count_7 (by decide) (by decide) (by decide) rfl (by decide) ?_
    refine z_aload_n 64 K dX8_count_63 rfl rfl 0 rfl ?_
    refine z_get 67 K hin_X8_count_X8 0 (by decide) hMa rfl 0 (by decide) (by decide +kernel : Cond.fieldLink RX8 12 "BriefBuilder" "state" "LBriefBuilder$State;" ∈ wsX8_count) (fun _ h9 => h9) rfl dX8_count_64 rfl ?_
    refine z_get 70 K hin_X8_count_X4 1 (by decide) hSt rfl 0 (by decide) (by decide +kernel : Cond.fieldLink RX8 48 "BriefBuilder$State" "exhibits" "LBriefBuilder$Exhibits;" ∈ wsX8_count) (fun _ h9 => h9) rfl dX8_count_67 rfl ?_
    refine z_vVi (As := []) (rest := []) 73 K 2 (by decide) hEx rfl rfl (m_X1_sumOfPages l g _ (f 1) (f 2) (f 0) pgs hEx hPgs (by omega)) (cwV 0 K.1.2.2.2.2 gX8_count_X1_sumOfPages rfl rfl rfl (by decide +kernel) ⟨Nat.le_of_ble_eq_true rfl, Nat.le_of_ble_eq_true rfl⟩) rfl (Nat.le_of_ble_eq_true rfl) dX8_count_70 rfl ⟨Nat.le_of_ble_eq_true rfl, Nat.le_of_ble_eq_true rfl⟩ rfl (fun z_3 C_4 hp_70 => ?_)
    refine z_C hp_70.1 ?_
    refine z_top (zsum pgs (f 1)) hp_70.2 ?_
    exact z_iret K rfl dX8_count_73 ⟨rfl, by unfold sCnt; rw [if_neg (by omega), if_pos (by omega)]; exact zsum_cong (fun j j0 j1 => (hR.ex j j0 j1).2)⟩
  by_cases sw_7_2 : w = 2
  · skip
    refine z_top (2) sw_7_2 ?_
    refine z_tableIn (tgt := 74) K dX8_count_7 (by decide) (by decide) (by decide) rfl (by decide) ?_
    refine z_aload_n 75 K dX8_count_74 rfl rfl 0 rfl ?_
    refine z_get 78 K hin_X8_count_X8 0 (by decide) hMa rfl 1 (by decide) (by decide +kernel : Cond.fieldLink RX8 19 "BriefBuilder" "view" "LBriefBuilder$View;" ∈ wsX8_count) (fun _ h9 => h9) rfl dX8_count_75 rfl ?_
    refine z_get 81 K hin_X8_count_X7 12 (by decide) hVw rfl 5 (by decide) (by decide +kernel : Cond.fieldLink RX8 244 "BriefBuilder$View" "binderCount" "I" ∈ wsX8_count) (fun _ h9 => h9) rfl dX8_count_78 rfl ?_
    exact z_iret K rfl dX8_count_81 ⟨rfl, by unfold sCnt; rw [if_neg (by omega), if_neg (by omega), if_pos (by omega)]⟩
  by_cases sw_7_3 : w = 3
  · skip
    refine z_top (3) sw_7_3 ?_
    refine z_tableIn (tgt := 82) K dX8_count_7 (by decide) (by decide) (by decide) rfl (by decide) ?_
    refine z_aload_n 83 K dX8_count_82 rfl rfl 0 rfl ?_
    refine z_vVi (As := []) (rest := []) 86 K 0 (by decide) hMa rfl rfl (m_X8_allCitations l g _ cc hMa hSt hCi hCc) (cwV 0 K.1.2.2.2.2 gX8_count_X8_allCitations rfl rfl rfl (by decide +kernel) ⟨Nat.le_of_ble_eq_true rfl, Nat.le_of_ble_eq_true rfl⟩) rfl (Nat.le_of_ble_eq_true rfl) dX8_count_83 rfl ⟨Nat.le_of_ble_eq_true rfl, Nat.le_of_ble_eq_true rfl⟩ rfl (fun z_5 C_6 hp_83 => ?_)
    refine z_C hp_83.1 ?_
    refine z_top (zsum cc 12) hp_83.2 ?_
    exact z_iret K rfl dX8_count_86 ⟨rfl, by unfold sCnt; rw [if_neg (by omega), if_neg (by omega), if_neg (by omega), if_pos (by omega)]; exact zsum_cong (fun j j0 j1 => (hR.pa j j0 j1).1)⟩
  by_cases sw_7_4 : w = 4
  · skip
    refine z_top (4) sw_7_4 ?_
    refine z_tableIn (tgt := 87) K dX8_count_7 (by decide) (by decide) (by decide) rfl (by decide) ?_
    refine z_aload_n 88 K dX8_count_87 rfl rfl 0 rfl ?_
    refine z_vVi (As := []) (rest := []) 91 K 0 (by decide) hMa rfl rfl (m_X8_allLost l g _ cc (sBds f) lo hMa hSt hCi hCc hVw hLo (hR.hcc hw) hVR.2.2.2) (cwV 0 K.1.2.2.2.2 gX8_count_X8_allLost rfl rfl rfl (by decide +kernel) ⟨Nat.le_of_ble_eq_true rfl, Nat.le_of_ble_eq_true rfl⟩) rfl (Nat.le_of_ble_eq_true rfl) dX8_count_88 rfl ⟨Nat.le_of_ble_eq_true rfl, Nat.le_of_ble_eq_true rfl⟩ rfl (fun z_7 C_8 hp_88 => ?_)
    refine z_C hp_88.1 ?_
    refine z_top (iAl cc lo) hp_88.2 ?_
    exact z_iret K rfl dX8_count_91 ⟨rfl, by unfold sCnt; rw [if_neg (by omega), if_neg (by omega), if_neg (by omega), if_neg (by omega), if_pos (by omega)]; exact look_al hR hVR hw⟩
  by_cases sw_7_5 : w = 5
  · skip
    refine z_top (5) sw_7_5 ?_
    refine z_tableIn (tgt := 92) K dX8_count_7 (by decide) (by decide) (by decide) rfl (by decide) ?_
    refine z_aload_n 93 K dX8_count_92 rfl rfl 0 rfl ?_
    refine z_aload_n 94 K dX8_count_93 rfl rfl 0 rfl ?_
    refine z_get 97 K hin_X8_count_X8 0 (by decide) hMa rfl 5 (by decide) (by decide +kernel : Cond.fieldLink RX8 44 "BriefBuilder" "samePlaces" "[I" ∈ wsX8_count) (fun _ h9 => h9) rfl dX8_count_94 rfl ?_
    refine z_vVi (As := [.ref (aD g 27)]) (rest := []) 100 K 0 (by decide) hMa rfl rfl (m_X8_staleWith l g _ 27 cc cp pn pm (sBds f) lt lo (fun k => k) hMa hSt hCi hCc hCp hPr hPc hPm hVw hLe hLo (by decide) hSp (hR.hcc hw) hVR.2.2.1 hVR.2.2.2 (hR.hcp hw) (fun j j0 j1 => (⟨by omega, by omega⟩ : -1 ≤ j ∧ j ≤ 30)) hR.r3 hR.r4) (cwV 1 K.1.2.2.2.2 gX8_count_X8_staleWith rfl rfl rfl (by decide +kernel) ⟨Nat.le_of_ble_eq_true rfl, Nat.le_of_ble_eq_true rfl⟩) rfl (Nat.le_of_ble_eq_true rfl) dX8_count_97 rfl ⟨Nat.le_of_ble_eq_true rfl, Nat.le_of_ble_eq_true rfl⟩ rfl (fun z_9 C_10 hp_97 => ?_)
    refine z_C hp_97.1 ?_
    refine z_top (iSn (fun k => k) lt lo cc cp pn pm) hp_97.2 ?_
    exact z_iret K rfl dX8_count_100 ⟨rfl, by unfold sCnt; rw [if_neg (by omega), if_neg (by omega), if_neg (by omega), if_neg (by omega), if_neg (by omega), if_pos (by omega)]; exact staleN_same hR hVR hw⟩
  by_cases sw_7_6 : w = 6
  · skip
    refine z_top (6) sw_7_6 ?_
    refine z_tableIn (tgt := 101) K dX8_count_7 (by decide) (by decide) (by decide) rfl (by decide) ?_
    refine z_aload_n 102 K dX8_count_101 rfl rfl 0 rfl ?_
    refine z_get 105 K hin_X8_count_X8 0 (by decide) hMa rfl 0 (by decide) (by decide +kernel : Cond.fieldLink RX8 12 "BriefBuilder" "state" "LBriefBuilder$State;" ∈ wsX8_count) (fun _ h9 => h9) rfl dX8_count_102 rfl ?_
    refine z_get 108 K hin_X8_count_X4 1 (by decide) hSt rfl 0 (by decide) (by decide +kernel : Cond.fieldLink RX8 48 "BriefBuilder$State" "exhibits" "LBriefBuilder$Exhibits;" ∈ wsX8_count) (fun _ h9 => h9) rfl dX8_count_105 rfl ?_
    refine z_get 111 K hin_X8_count_X1 2 (by decide) hEx rfl 2 (by decide) (by decide +kernel : Cond.fieldLink RX8 95 "BriefBuilder$Exhibits" "count" "I" ∈ wsX8_count) (fun _ h9 => h9) rfl dX8_count_108 rfl ?_
    refine z_aload_n 112 K dX8_count_111 rfl rfl 0 rfl ?_
    refine z_vVi (As := []) (rest := [.int (iZ (f 1))]) 115 K 0 (by decide) hMa rfl rfl (m_X8_citedExhibits l g _ cc (f 1) (f 2) (f 0) (sBds f) lt lo hMa hSt hCi hCc hEx hVw hLe hLo (by omega) (hR.hcc hw) hVR.2.2.1 hVR.2.2.2) (cwV 0 K.1.2.2.2.2 gX8_count_X8_citedExhibits rfl rfl rfl (by decide +kernel) ⟨Nat.le_of_ble_eq_true rfl, Nat.le_of_ble_eq_true rfl⟩) rfl (Nat.le_of_ble_eq_true rfl) dX8_count_112 rfl ⟨Nat.le_of_ble_eq_true rfl, Nat.le_of_ble_eq_true rfl⟩ rfl (fun z_11 C_12 hp_112 => ?_)
    refine z_C hp_112.1 ?_
    refine z_top (iCe cc lt lo (f 1)) hp_112.2 ?_
    refine z_isub 116 K dX8_count_115 rfl ?_
    exact z_iret K rfl dX8_count_116 ⟨rfl, by unfold sCnt; rw [if_neg (by omega), if_neg (by omega), if_neg (by omega), if_neg (by omega), if_neg (by omega), if_neg (by omega), if_pos (by omega)]; have q := look_ce hR hVR hw; omega⟩
  by_cases sw_7_7 : w = 7
  · skip
    refine z_top (7) sw_7_7 ?_
    refine z_tableIn (tgt := 117) K dX8_count_7 (by decide) (by decide) (by decide) rfl (by decide) ?_
    refine z_aload_n 118 K dX8_count_117 rfl rfl 0 rfl ?_
    refine z_get 121 K hin_X8_count_X8 0 (by decide) hMa rfl 0 (by decide) (by decide +kernel : Cond.fieldLink RX8 12 "BriefBuilder" "state" "LBriefBuilder$State;" ∈ wsX8_count) (fun _ h9 => h9) rfl dX8_count_118 rfl ?_
    refine z_get 124 K hin_X8_count_X4 1 (by decide) hSt rfl 0 (by decide) (by decide +kernel : Cond.fieldLink RX8 48 "BriefBuilder$State" "exhibits" "LBriefBuilder$Exhibits;" ∈ wsX8_count) (fun _ h9 => h9) rfl dX8_count_121 rfl ?_
    refine z_get 127 K hin_X8_count_X1 2 (by decide) hEx rfl 4 (by decide) (by decide +kernel : Cond.fieldLink RX8 174 "BriefBuilder$Exhibits" "binderPages" "I" ∈ wsX8_count) (fun _ h9 => h9) rfl dX8_count_124 rfl ?_
    exact z_iret K rfl dX8_count_127 ⟨rfl, by unfold sCnt; rw [if_neg (by omega), if_neg (by omega), if_neg (by omega), if_neg (by omega), if_neg (by omega), if_neg (by omega), if_neg (by omega), if_pos (by omega)]⟩
  refine z_tableOut (tgt := 128) K dX8_count_7 (by omega) (by omega) (by decide) ?_
  refine z_aload_n 129 K dX8_count_128 rfl rfl 0 rfl ?_
  refine z_get 132 K hin_X8_count_X8 0 (by decide) hMa rfl 3 (by decide) (by decide +kernel : Cond.fieldLink RX8 33 "BriefBuilder" "history" "LBriefBuilder$History;" ∈ wsX8_count) (fun _ h9 => h9) rfl dX8_count_129 rfl ?_
  refine z_get 135 K hin_X8_count_X2 21 (by decide) hHi rfl 2 (by decide) (by decide +kernel : Cond.fieldLink RX8 205 "BriefBuilder$History" "count" "I" ∈ wsX8_count) (fun _ h9 => h9) rfl dX8_count_132 rfl ?_
  exact z_iret K rfl dX8_count_135 ⟨rfl, by unfold sCnt; rw [if_neg (by omega), if_neg (by omega), if_neg (by omega), if_neg (by omega), if_neg (by omega), if_neg (by omega), if_neg (by omega), if_neg (by omega)]⟩


set_option maxHeartbeats 4000000 in
set_option maxRecDepth 100000 in
theorem x_X8_ifDropped (l : Launch) (g : zG) (C : Nat → va_E) (p0 : Int) (w : Int) (f : Int → Int) (past : Int → Int) (tx : Int → Int) (k : Int) (ty : Int) (cap : Int) (hI : IW g C f k past ty tx) (hP : PW cap f k past ty tx) (h_p0 : -2147483648 ≤ p0 ∧ p0 < 2147483648) (h_w : -2147483648 ≤ w ∧ w < 2147483648) (hk9 : kIfD f p0 w ≠ 0) (hlt : l.stackTraces = false) : vx_Met l yX8_ifDropped wsX8_ifDropped ({ frames := 7, cells := 2, slots := 12, locals := 103 } : Room) (zPre g C [.ref (aD g 0), .int (iZ p0), .int (iZ w)]) (zQi g (fun z C' => False)) (zX g (fun E C' => IW g C' f k past ty tx ∧ zSame C C' ∧ ((E = "java/lang/IndexOutOfBoundsException" ∧ kIfD f p0 w = 1) ∨ (E = "java/lang/IllegalArgumentException" ∧ kIfD f p0 w = 2)))) 2 12 (zA g) := by
  refine z_enterX RX8 rfl (by decide) rfl (Nat.le_of_ble_eq_true rfl) ?_
  intro p e s m args below meth c K harg hne
  refine z_sub (lv' := [(0, .ref (aD g 0)), (1, .int (iZ p0)), (2, .int (iZ w))]) [0, 1, 2] rfl ?_
  have hI0 := hI
  obtain ⟨hB, hL, hV, hT, hH, hX⟩ := hI
  obtain ⟨hMa, hSp⟩ := id hB
  obtain ⟨num, pgs, cc, cn, cp, pn, pm, ⟨hSt, hEx, hNum, hPgs, hCi, hCc, hCn, hCp, hPr, hPc, hPm⟩, hR⟩ := id hL
  obtain ⟨vb, vt, vf, lt, lo, ⟨hVw, hVb, hVt, hVf, hLe, hLo⟩, hVR⟩ := id hV
  obtain ⟨tc, np, tp, hTr, hTn, hTp, hnp⟩ := id hT
  obtain ⟨cur, stp, pl, px, hTx, hXc, hXl, hXp, hpx⟩ := id hX
  obtain ⟨old, hHi, hHs, hho, -, -⟩ := id hH
  obtain ⟨hw, hk, hpst, hty, htxr, hrtx, hrp, hcap⟩ := id hP
  have hn := hw.n
  have hnx := hw.nx
  have hbp := hw.bp
  refine z_aload_n 1 K dX8_ifDropped_0 rfl rfl 0 rfl ?_
  refine z_iload_n 2 K dX8_ifDropped_1 rfl rfl 1 rfl ?_
  refine z_xVv (As := [.int (iZ p0)]) (rest := []) 5 K 0 (by decide) hMa rfl rfl (m_X8_checkPlace l g _ p0 (f 1) (f 2) (f 0) hMa hSt hEx (by omega) (by omega) hlt) (cwV 1 K.1.2.2.2.2 gX8_ifDropped_X8_checkPlace rfl rfl rfl (by decide +kernel) ⟨Nat.le_of_ble_eq_true rfl, Nat.le_of_ble_eq_true rfl⟩) rfl (Nat.le_of_ble_eq_true rfl) dX8_ifDropped_2 rfl ⟨Nat.le_of_ble_eq_true rfl, Nat.le_of_ble_eq_true rfl⟩ rfl (fun E9 C9 hx9 => ?_) (fun C_2 hp_2 => ?_)
  · obtain ⟨hE9, rfl, hx9⟩ := hx9
    exact z_out hne K (Nat.le_of_ble_eq_true rfl) (Nat.le_of_ble_eq_true rfl) ⟨hI0, zSame_rf _, Or.inl ⟨hE9, (by unfold kIfD; repeat (first | omega | split))⟩⟩
  obtain ⟨hC_2, hc_2⟩ := hp_2
  refine z_C hC_2 ?_
  refine z_iload_n 6 K dX8_ifDropped_5 rfl rfl 2 rfl ?_
  refine z_iconst 7 K dX8_ifDropped_6 rfl ?_
  refine z_xSv (As := [.int (iZ w), .int (iZ 1)]) (rest := []) 10 K (m_X8_checkWhat l g _ w 1 (by omega) (by omega) hlt) (va_cwS 2 K.1.2.2.2.2 gX8_ifDropped_X8_checkWhat rfl rfl rfl (by decide +kernel) ⟨Nat.le_of_ble_eq_true rfl, Nat.le_of_ble_eq_true rfl⟩) rfl (Nat.le_of_ble_eq_true rfl) dX8_ifDropped_7 rfl ⟨by simp only []; omega, by simp only []; omega⟩ rfl (fun E9 C9 hx9 => ?_) (fun C_4 hp_7 => ?_)
  · obtain ⟨hE9, rfl, hx9⟩ := hx9
    exact z_out hne K (Nat.le_of_ble_eq_true rfl) (Nat.le_of_ble_eq_true rfl) ⟨hI0, zSame_rf _, Or.inr (⟨hE9, (by unfold kIfD; repeat (first | omega | split))⟩)⟩
  obtain ⟨hC_7, hc_7⟩ := hp_7
  refine z_C hC_7 ?_
  exact absurd (by unfold kIfD; repeat (first | omega | split)) hk9
set_option maxRecDepth 20000 in
theorem hin_X8_ifDropped_X4 : ∀ w ∈ wsX40, w ∈ wsX8_ifDropped := by decide +kernel
set_option maxRecDepth 20000 in
theorem hin_X8_ifDropped_X6 : ∀ w ∈ wsX60, w ∈ wsX8_ifDropped := by decide +kernel
set_option maxRecDepth 20000 in
theorem hin_X8_ifDropped_X8 : ∀ w ∈ wsX80, w ∈ wsX8_ifDropped := by decide +kernel
set_option maxHeartbeats 4000000 in
set_option maxRecDepth 100000 in
theorem a_X8_ifDropped (l : Launch) (g : zG) (C : Nat → va_E) (p0 : Int) (w : Int) (f : Int → Int) (past : Int → Int) (tx : Int → Int) (k : Int) (ty : Int) (cap : Int) (hI : IW g C f k past ty tx) (hP : PW cap f k past ty tx) (h_p0 : -2147483648 ≤ p0 ∧ p0 < 2147483648) (h_w : -2147483648 ≤ w ∧ w < 2147483648) (hk9 : kIfD f p0 w = 0) : Met l yX8_ifDropped wsX8_ifDropped ({ frames := 3, cells := 0, slots := 0, locals := 73 } : Room) (zPre g C [.ref (aD g 0), .int (iZ p0), .int (iZ w)]) (zQi g (fun z C' => IW g C' f k past ty tx ∧ zSame C C' ∧ z = sDrp f p0 w)) 0 0 (zA g) := by
  refine z_enter RX8 rfl (by decide) rfl (Nat.le_of_ble_eq_true rfl) ?_
  intro p e s m args below meth c K harg
  refine z_sub (lv' := [(0, .ref (aD g 0)), (1, .int (iZ p0)), (2, .int (iZ w))]) [0, 1, 2] rfl ?_
  have hI0 := hI
  obtain ⟨hB, hL, hV, hT, hH, hX⟩ := hI
  obtain ⟨hMa, hSp⟩ := id hB
  obtain ⟨num, pgs, cc, cn, cp, pn, pm, ⟨hSt, hEx, hNum, hPgs, hCi, hCc, hCn, hCp, hPr, hPc, hPm⟩, hR⟩ := id hL
  obtain ⟨vb, vt, vf, lt, lo, ⟨hVw, hVb, hVt, hVf, hLe, hLo⟩, hVR⟩ := id hV
  obtain ⟨tc, np, tp, hTr, hTn, hTp, hnp⟩ := id hT
  obtain ⟨cur, stp, pl, px, hTx, hXc, hXl, hXp, hpx⟩ := id hX
  obtain ⟨old, hHi, hHs, hho, -, -⟩ := id hH
  obtain ⟨hw, hk, hpst, hty, htxr, hrtx, hrp, hcap⟩ := id hP
  have hn := hw.n
  have hnx := hw.nx
  have hbp := hw.bp
  have hq : (0 ≤ p0 ∧ p0 < f 1) ∧ 0 ≤ w ∧ w ≤ 1 := by
    unfold kIfD at hk9
    repeat (first | omega | split at hk9)
  refine z_aload_n 1 K dX8_ifDropped_0 rfl rfl 0 rfl ?_
  refine z_iload_n 2 K dX8_ifDropped_1 rfl rfl 1 rfl ?_
  refine z_vVv (As := [.int (iZ p0)]) (rest := []) 5 K 0 (by decide) hMa rfl rfl (n_X8_checkPlace l g _ p0 (f 1) (f 2) (f 0) hMa hSt hEx (by omega) (by omega) (by omega)) (cwV 1 K.1.2.2.2.2 gX8_ifDropped_X8_checkPlace rfl rfl rfl (by decide +kernel) ⟨Nat.le_of_ble_eq_true rfl, Nat.le_of_ble_eq_true rfl⟩) rfl (Nat.le_of_ble_eq_true rfl) dX8_ifDropped_2 rfl ⟨Nat.le_of_ble_eq_true rfl, Nat.le_of_ble_eq_true rfl⟩ rfl (fun C_2 hp_2 => ?_)
  refine z_C hp_2 ?_
  refine z_iload_n 6 K dX8_ifDropped_5 rfl rfl 2 rfl ?_
  refine z_iconst 7 K dX8_ifDropped_6 rfl ?_
  refine z_vSv (As := [.int (iZ w), .int (iZ 1)]) (rest := []) 10 K (n_X8_checkWhat l g _ w 1 (by omega) (by omega) (by omega)) (va_cwS 2 K.1.2.2.2.2 gX8_ifDropped_X8_checkWhat rfl rfl rfl (by decide +kernel) ⟨Nat.le_of_ble_eq_true rfl, Nat.le_of_ble_eq_true rfl⟩) rfl (Nat.le_of_ble_eq_true rfl) dX8_ifDropped_7 rfl ⟨Nat.le_of_ble_eq_true rfl, Nat.le_of_ble_eq_true rfl⟩ rfl (fun C_4 hp_7 => ?_)
  refine z_C hp_7 ?_
  refine z_iload_n 11 K dX8_ifDropped_10 rfl rfl 2 rfl ?_
  refine z_if_ne (tgt := 20) 14 K dX8_ifDropped_11 rfl (by decide) (by omega) (fun c_11 => ?_) (fun c_11 => ?_)
  · skip
    refine z_aload_n 21 K dX8_ifDropped_20 rfl rfl 0 rfl ?_
    refine z_get 24 K hin_X8_ifDropped_X8 0 (by decide) hMa rfl 2 (by decide) (by decide +kernel : Cond.fieldLink RX8 26 "BriefBuilder" "trial" "LBriefBuilder$Trial;" ∈ wsX8_ifDropped) (fun _ h9 => h9) rfl dX8_ifDropped_21 rfl ?_
    refine z_aload_n 25 K dX8_ifDropped_24 rfl rfl 0 rfl ?_
    refine z_get 28 K hin_X8_ifDropped_X8 0 (by decide) hMa rfl 0 (by decide) (by decide +kernel : Cond.fieldLink RX8 12 "BriefBuilder" "state" "LBriefBuilder$State;" ∈ wsX8_ifDropped) (fun _ h9 => h9) rfl dX8_ifDropped_25 rfl ?_
    refine z_get 31 K hin_X8_ifDropped_X4 1 (by decide) hSt rfl 0 (by decide) (by decide +kernel : Cond.fieldLink RX8 48 "BriefBuilder$State" "exhibits" "LBriefBuilder$Exhibits;" ∈ wsX8_ifDropped) (fun _ h9 => h9) rfl dX8_ifDropped_28 rfl ?_
    refine z_iload_n 32 K dX8_ifDropped_31 rfl rfl 1 rfl ?_
    refine z_vVv (As := [.ref (aD g 2), .int (iZ p0)]) (rest := []) 35 K 18 (by decide) hTr rfl rfl (m_X6_dropOne l g _ p0 tc np tp (f 1) (f 2) (f 0) pgs hTr hTn hTp hEx hPgs hnp (by omega) (by omega)) (cwV 2 K.1.2.2.2.2 gX8_ifDropped_X6_dropOne rfl rfl rfl (by decide +kernel) ⟨Nat.le_of_ble_eq_true rfl, Nat.le_of_ble_eq_true rfl⟩) rfl (Nat.le_of_ble_eq_true rfl) dX8_ifDropped_32 rfl ⟨Nat.le_of_ble_eq_true rfl, Nat.le_of_ble_eq_true rfl⟩ rfl (fun C_6 hp_32 => ?_)
    obtain ⟨w19_7, w20_8, hC_32, htn_32, htp_32, htr_32⟩ := hp_32
    refine z_C hC_32 ?_
    refine z_aload_n 36 K dX8_ifDropped_35 rfl rfl 0 rfl ?_
    refine z_aload_n 37 K dX8_ifDropped_36 rfl rfl 0 rfl ?_
    refine z_get 40 K hin_X8_ifDropped_X8 0 (by decide) ((va_up_ne _ _ (by decide)).trans ((va_up_ne _ _ (by decide)).trans ((va_up_ne _ _ (by decide)).trans hMa))) rfl 2 (by decide) (by decide +kernel : Cond.fieldLink RX8 26 "BriefBuilder" "trial" "LBriefBuilder$Trial;" ∈ wsX8_ifDropped) (fun _ h9 => h9) rfl dX8_ifDropped_37 rfl ?_
    refine z_get 43 K hin_X8_ifDropped_X6 18 (by decide) (va_up_eq _ 18 _) rfl 0 (by decide) (by decide +kernel : Cond.fieldLink RX8 264 "BriefBuilder$Trial" "newPlaces" "[I" ∈ wsX8_ifDropped) (fun _ h9 => h9) rfl dX8_ifDropped_40 rfl ?_
    refine z_vVi (As := [.ref (aD g 19)]) (rest := []) 46 K 0 (by decide) ((va_up_ne _ _ (by decide)).trans ((va_up_ne _ _ (by decide)).trans ((va_up_ne _ _ (by decide)).trans hMa))) rfl rfl (m_X8_staleWith l g _ 19 cc cp pn pm (sBds f) lt lo w19_7 ((va_up_ne _ _ (by decide)).trans ((va_up_ne _ _ (by decide)).trans ((va_up_ne _ _ (by decide)).trans hMa))) ((va_up_ne _ _ (by decide)).trans ((va_up_ne _ _ (by decide)).trans ((va_up_ne _ _ (by decide)).trans hSt))) ((va_up_ne _ _ (by decide)).trans ((va_up_ne _ _ (by decide)).trans ((va_up_ne _ _ (by decide)).trans hCi))) ((va_up_ne _ _ (by decide)).trans ((va_up_ne _ _ (by decide)).trans ((va_up_ne _ _ (by decide)).trans hCc))) ((va_up_ne _ _ (by decide)).trans ((va_up_ne _ _ (by decide)).trans ((va_up_ne _ _ (by decide)).trans hCp))) ((va_up_ne _ _ (by decide)).trans ((va_up_ne _ _ (by decide)).trans ((va_up_ne _ _ (by decide)).trans hPr))) ((va_up_ne _ _ (by decide)).trans ((va_up_ne _ _ (by decide)).trans ((va_up_ne _ _ (by decide)).trans hPc))) ((va_up_ne _ _ (by decide)).trans ((va_up_ne _ _ (by decide)).trans ((va_up_ne _ _ (by decide)).trans hPm))) ((va_up_ne _ _ (by decide)).trans ((va_up_ne _ _ (by decide)).trans ((va_up_ne _ _ (by decide)).trans hVw))) ((va_up_ne _ _ (by decide)).trans ((va_up_ne _ _ (by decide)).trans ((va_up_ne _ _ (by decide)).trans hLe))) ((va_up_ne _ _ (by decide)).trans ((va_up_ne _ _ (by decide)).trans ((va_up_ne _ _ (by decide)).trans hLo))) (by decide) ((va_up_ne _ _ (by decide)).trans ((va_up_ne _ _ (by decide)).trans (va_up_eq _ 19 _))) (hR.hcc hw) hVR.2.2.1 hVR.2.2.2 (hR.hcp hw) htr_32 hR.r3 hR.r4) (cwV 1 K.1.2.2.2.2 gX8_ifDropped_X8_staleWith rfl rfl rfl (by decide +kernel) ⟨Nat.le_of_ble_eq_true rfl, Nat.le_of_ble_eq_true rfl⟩) rfl (Nat.le_of_ble_eq_true rfl) dX8_ifDropped_43 rfl ⟨Nat.le_of_ble_eq_true rfl, Nat.le_of_ble_eq_true rfl⟩ rfl (fun z_9 C_10 hp_43 => ?_)
    refine z_C hp_43.1 ?_
    refine z_top (iSn w19_7 lt lo cc cp pn pm) hp_43.2 ?_
    exact z_iret K rfl dX8_ifDropped_46 ⟨IW_tr hI0 (fun q hq => ((va_up_ne _ _ (by omega)).trans ((va_up_ne _ _ (by omega)).trans ((va_up_ne _ _ (by omega)).trans rfl)))) ⟨_, _, _, (va_up_eq _ 18 _), ((va_up_ne _ _ (by decide)).trans ((va_up_ne _ _ (by decide)).trans (va_up_eq _ 19 _))), ((va_up_ne _ _ (by decide)).trans (va_up_eq _ 20 _)), htr_32⟩, fun q hq => ((va_up_ne _ _ (by omega)).trans ((va_up_ne _ _ (by omega)).trans ((va_up_ne _ _ (by omega)).trans rfl))), by unfold sDrp; rw [if_neg (by omega)]; exact trial_out hR hVR hw hq.1 htn_32⟩
  · skip
    refine z_aload_n 15 K dX8_ifDropped_14 rfl rfl 0 rfl ?_
    refine z_iload_n 16 K dX8_ifDropped_15 rfl rfl 1 rfl ?_
    refine z_vVi (As := [.int (iZ p0)]) (rest := []) 19 K 0 (by decide) hMa rfl rfl (m_X8_goodCitationsOf l g _ p0 cc (sBds f) lt lo hMa hSt hCi hCc hVw hLe hLo (hR.hcc hw) hVR.2.2.1 hVR.2.2.2 (by omega)) (cwV 1 K.1.2.2.2.2 gX8_ifDropped_X8_goodCitationsOf rfl rfl rfl (by decide +kernel) ⟨Nat.le_of_ble_eq_true rfl, Nat.le_of_ble_eq_true rfl⟩) rfl (Nat.le_of_ble_eq_true rfl) dX8_ifDropped_16 rfl ⟨Nat.le_of_ble_eq_true rfl, Nat.le_of_ble_eq_true rfl⟩ rfl (fun z_11 C_12 hp_16 => ?_)
    refine z_C hp_16.1 ?_
    refine z_top (iGo cc lt lo p0) hp_16.2 ?_
    exact z_iret K rfl dX8_ifDropped_19 ⟨hI0, zSame_rf _, by unfold sDrp; rw [if_pos (by omega)]; exact drop_lost hR hVR hw hq.1⟩




end ZIK
