/-! the class: what only reads -/
section ZIN
set_option maxRecDepth 20000 in
theorem hin_X8_lostIn_X0 : ∀ w ∈ wsX00, w ∈ wsX8_lostIn := by decide +kernel
set_option maxRecDepth 20000 in
theorem hin_X8_lostIn_X4 : ∀ w ∈ wsX40, w ∈ wsX8_lostIn := by decide +kernel
set_option maxRecDepth 20000 in
theorem hin_X8_lostIn_X7 : ∀ w ∈ wsX70, w ∈ wsX8_lostIn := by decide +kernel
set_option maxRecDepth 20000 in
theorem hin_X8_lostIn_X8 : ∀ w ∈ wsX80, w ∈ wsX8_lostIn := by decide +kernel
set_option maxHeartbeats 4000000 in
set_option maxRecDepth 100000 in
theorem m_X8_lostIn (l : Launch) (g : zG) (C : Nat → va_E) (a : Int) (cc : Int → Int) (nb : Int) (lo : Int → Int) (hMa : C 0 = .inr (8, [.ref (aD g 1), .ref (aD g 12), .ref (aD g 18), .ref (aD g 21), .ref (aD g 23), .ref (aD g 27)])) (hSt : C 1 = .inr (4, [.ref (aD g 2), .ref (aD g 5), .ref (aD g 9)])) (hCi : C 5 = .inr (0, [.ref (aD g 6), .ref (aD g 7), .ref (aD g 8)])) (hCc : C 6 = eI g 12 cc) (hVw : C 12 = .inr (7, [.ref (aD g 13), .ref (aD g 14), .ref (aD g 15), .ref (aD g 16), .ref (aD g 17), .int (iZ nb)])) (hLo : C 17 = eZ g 72 lo) (hpa : 0 ≤ a ∧ a < 12) (hcc : ∀ a, 0 ≤ a → a < 12 → 0 ≤ cc a ∧ cc a ≤ 6) (hlo9 : ∀ j, lo j = 0 ∨ lo j = 1) : Met l yX8_lostIn wsX8_lostIn ({ frames := 1, cells := 0, slots := 0, locals := 21 } : Room) (zPre g C [.ref (aD g 0), .int (iZ a)]) (zQi g (fun z C' => C' = C ∧ z = iLi cc lo a)) 0 0 (zA g) := by
  refine z_enter RX8 rfl (by decide) rfl (Nat.le_of_ble_eq_true rfl) ?_
  intro p e s m args below meth c K harg
  refine z_sub (lv' := [(0, .ref (aD g 0)), (1, .int (iZ a))]) [0, 1] rfl ?_
  have hca := hcc a hpa.1 hpa.2
  refine z_iconst 1 K dX8_lostIn_0 rfl ?_
  refine z_istore_n (lv' := [(2, .int (iZ 0)), (0, .ref (aD g 0)), (1, .int (iZ a))]) 2 K dX8_lostIn_1 rfl rfl (by decide) rfl ?_
  refine z_iconst 3 K dX8_lostIn_2 rfl ?_
  refine z_istore_n (lv' := [(3, .int (iZ 0)), (2, .int (iZ 0)), (0, .ref (aD g 0)), (1, .int (iZ a))]) 4 K dX8_lostIn_3 rfl rfl (by decide) rfl ?_
  have loop_4 : ∀ (n9 : Nat) (n b : Int), (0 ≤ b ∧ b ≤ cc a) → (n = zsum (fun b => b2i (decide (lo (6 * a + b) ≠ 0))) b) → (cc a - b < (n9 : Int)) → Z p l e (({ frames := 1, cells := 0, slots := 0, locals := 21 } : Room)) s m args below meth c (MQ below (zQi g (fun z C' => C' = C ∧ z = iLi cc lo a)) args s 0 0 (zA g)) g 4 0 0 (C) [(0, .ref (aD g 0)), (1, .int (iZ a)), (2, .int (iZ n)), (3, .int (iZ b))] 4 [] := by
    intro n9
    induction n9 with
    | zero =>
      intro n b hkb hn1 hm9
      exact absurd hm9 (by omega)
    | succ n9 ih9 =>
      intro n b hkb hn1 hm_4
      have ih_4 := ih9
      clear ih9
      refine z_iload_n 5 K dX8_lostIn_4 rfl rfl 3 rfl ?_
      refine z_aload_n 6 K dX8_lostIn_5 rfl rfl 0 rfl ?_
      refine z_get 9 K hin_X8_lostIn_X8 0 (by decide) hMa rfl 0 (by decide) (by decide +kernel : Cond.fieldLink RX8 12 "BriefBuilder" "state" "LBriefBuilder$State;" ∈ wsX8_lostIn) (fun _ h9 => h9) rfl dX8_lostIn_6 rfl ?_
      refine z_get 12 K hin_X8_lostIn_X4 1 (by decide) hSt rfl 1 (by decide) (by decide +kernel : Cond.fieldLink RX8 111 "BriefBuilder$State" "citations" "LBriefBuilder$Citations;" ∈ wsX8_lostIn) (fun _ h9 => h9) rfl dX8_lostIn_9 rfl ?_
      refine z_get 15 K hin_X8_lostIn_X0 5 (by decide) hCi rfl 0 (by decide) (by decide +kernel : Cond.fieldLink RX8 131 "BriefBuilder$Citations" "counts" "[I" ∈ wsX8_lostIn) (fun _ h9 => h9) rfl dX8_lostIn_12 rfl ?_
      refine z_iload_n 16 K dX8_lostIn_15 rfl rfl 1 rfl ?_
      refine z_iald (f := cc) 17 K 6 (by decide) hCc (by omega) (by omega) (by decide) dX8_lostIn_16 rfl ?_
      refine z_icmp_ge (tgt := 45) 20 K dX8_lostIn_17 rfl (by decide) (by omega) (by omega) (fun c_17 => ?_) (fun c_17 => ?_)
      · skip
        refine z_iload_n 46 K dX8_lostIn_45 rfl rfl 2 rfl ?_
        exact z_iret K rfl dX8_lostIn_46 ⟨rfl, by rw [hn1, show b = cc a by omega]; rfl⟩
      · skip
        refine z_aload_n 21 K dX8_lostIn_20 rfl rfl 0 rfl ?_
        refine z_get 24 K hin_X8_lostIn_X8 0 (by decide) hMa rfl 1 (by decide) (by decide +kernel : Cond.fieldLink RX8 19 "BriefBuilder" "view" "LBriefBuilder$View;" ∈ wsX8_lostIn) (fun _ h9 => h9) rfl dX8_lostIn_21 rfl ?_
        refine z_get 27 K hin_X8_lostIn_X7 12 (by decide) hVw rfl 4 (by decide) (by decide +kernel : Cond.fieldLink RX8 139 "BriefBuilder$View" "lost" "[Z" ∈ wsX8_lostIn) (fun _ h9 => h9) rfl dX8_lostIn_24 rfl ?_
        refine z_iload_n 28 K dX8_lostIn_27 rfl rfl 1 rfl ?_
        refine z_iload_n 29 K dX8_lostIn_28 rfl rfl 3 rfl ?_
        refine z_vSi (As := [.int (iZ a), .int (iZ b)]) (rest := [.ref (aD g 17)]) 32 K (m_X8_cellOf l g _ a b ) (va_cwS 2 K.1.2.2.2.2 gX8_lostIn_X8_cellOf rfl rfl rfl (by decide +kernel) ⟨Nat.le_of_ble_eq_true rfl, Nat.le_of_ble_eq_true rfl⟩) rfl (Nat.le_of_ble_eq_true rfl) dX8_lostIn_29 rfl ⟨Nat.le_of_ble_eq_true rfl, Nat.le_of_ble_eq_true rfl⟩ rfl (fun z_1 C_2 hp_29 => ?_)
        refine z_C hp_29.1 ?_
        refine z_top (6 * a + b) hp_29.2 ?_
        refine z_zald (f := lo) 33 K 17 (by decide) hLo (by omega) (by omega) (by decide) dX8_lostIn_32 rfl ?_
        have hl9 := hlo9 (6 * a + b)
        refine z_if_eq (tgt := 39) 36 K dX8_lostIn_33 rfl (by decide) (by omega) (fun c_33 => ?_) (fun c_33 => ?_)
        · skip
          refine z_iinc (lv' := [(3, .int (iZ (b + 1))), (0, .ref (aD g 0)), (1, .int (iZ a)), (2, .int (iZ n))]) 42 K dX8_lostIn_39 rfl (b + 1) rfl 3 rfl (by decide) rfl ?_
          refine z_goto (tgt := 4) K dX8_lostIn_42 (by decide) ?_
          refine z_sub [1, 2, 3, 0] rfl ?_
          exact ih_4 n (b + 1) (by omega) (by rw [zsum_1 _ (by omega)]; first | (have q9 : lo (6 * a + b) ≠ 0 := (by omega); rw [b2i_1 q9]; omega) | (have q9 : ¬ lo (6 * a + b) ≠ 0 := (by omega); rw [b2i_0 q9]; omega)) (by omega)
        · skip
          refine z_iinc (lv' := [(2, .int (iZ (n + 1))), (0, .ref (aD g 0)), (1, .int (iZ a)), (3, .int (iZ b))]) 39 K dX8_lostIn_36 rfl (n + 1) rfl 2 rfl (by decide) rfl ?_
          refine z_iinc (lv' := [(3, .int (iZ (b + 1))), (2, .int (iZ (n + 1))), (0, .ref (aD g 0)), (1, .int (iZ a))]) 42 K dX8_lostIn_39 rfl (b + 1) rfl 3 rfl (by decide) rfl ?_
          refine z_goto (tgt := 4) K dX8_lostIn_42 (by decide) ?_
          refine z_sub [2, 3, 1, 0] rfl ?_
          exact ih_4 (n + 1) (b + 1) (by omega) (by rw [zsum_1 _ (by omega)]; first | (have q9 : lo (6 * a + b) ≠ 0 := (by omega); rw [b2i_1 q9]; omega) | (have q9 : ¬ lo (6 * a + b) ≠ 0 := (by omega); rw [b2i_0 q9]; omega)) (by omega)
  refine z_sub [2, 3, 1, 0] rfl ?_
  exact loop_4 (Int.toNat (cc a - 0) + 1) 0 0 (by omega) rfl (by omega)
set_option maxHeartbeats 4000000 in
set_option maxRecDepth 100000 in
theorem m_X8_allLost (l : Launch) (g : zG) (C : Nat → va_E) (cc : Int → Int) (nb : Int) (lo : Int → Int) (hMa : C 0 = .inr (8, [.ref (aD g 1), .ref (aD g 12), .ref (aD g 18), .ref (aD g 21), .ref (aD g 23), .ref (aD g 27)])) (hSt : C 1 = .inr (4, [.ref (aD g 2), .ref (aD g 5), .ref (aD g 9)])) (hCi : C 5 = .inr (0, [.ref (aD g 6), .ref (aD g 7), .ref (aD g 8)])) (hCc : C 6 = eI g 12 cc) (hVw : C 12 = .inr (7, [.ref (aD g 13), .ref (aD g 14), .ref (aD g 15), .ref (aD g 16), .ref (aD g 17), .int (iZ nb)])) (hLo : C 17 = eZ g 72 lo) (hcc : ∀ a, 0 ≤ a → a < 12 → 0 ≤ cc a ∧ cc a ≤ 6) (hlo9 : ∀ j, lo j = 0 ∨ lo j = 1) : Met l yX8_allLost wsX8_allLost ({ frames := 2, cells := 0, slots := 0, locals := 44 } : Room) (zPre g C [.ref (aD g 0)]) (zQi g (fun z C' => C' = C ∧ z = iAl cc lo)) 0 0 (zA g) := by
  refine z_enter RX8 rfl (by decide) rfl (Nat.le_of_ble_eq_true rfl) ?_
  intro p e s m args below meth c K harg
  refine z_sub (lv' := [(0, .ref (aD g 0))]) [0] rfl ?_
  refine z_iconst 1 K dX8_allLost_0 rfl ?_
  refine z_istore_n (lv' := [(1, .int (iZ 0)), (0, .ref (aD g 0))]) 2 K dX8_allLost_1 rfl rfl (by decide) rfl ?_
  refine z_iconst 3 K dX8_allLost_2 rfl ?_
  refine z_istore_n (lv' := [(2, .int (iZ 0)), (1, .int (iZ 0)), (0, .ref (aD g 0))]) 4 K dX8_allLost_3 rfl rfl (by decide) rfl ?_
  have loop_4 : ∀ (n9 : Nat) (n a : Int), (0 ≤ a ∧ a ≤ 12) → (n = zsum (fun a => iLi cc lo a) a) → (12 - a < (n9 : Int)) → Z p l e (({ frames := 2, cells := 0, slots := 0, locals := 44 } : Room)) s m args below meth c (MQ below (zQi g (fun z C' => C' = C ∧ z = iAl cc lo)) args s 0 0 (zA g)) g 3 0 0 (C) [(0, .ref (aD g 0)), (1, .int (iZ n)), (2, .int (iZ a))] 4 [] := by
    intro n9
    induction n9 with
    | zero =>
      intro n a hka hn1 hm9
      exact absurd hm9 (by omega)
    | succ n9 ih9 =>
      intro n a hka hn1 hm_4
      have ih_4 := ih9
      clear ih9
      refine z_iload_n 5 K dX8_allLost_4 rfl rfl 2 rfl ?_
      refine z_bipush 7 K dX8_allLost_5 rfl rfl ?_
      refine z_icmp_ge (tgt := 24) 10 K dX8_allLost_7 rfl (by decide) (by omega) (by decide) (fun c_7 => ?_) (fun c_7 => ?_)
      · skip
        refine z_iload_n 25 K dX8_allLost_24 rfl rfl 1 rfl ?_
        exact z_iret K rfl dX8_allLost_25 ⟨rfl, by rw [hn1, show a = 12 by omega]; rfl⟩
      · skip
        refine z_iload_n 11 K dX8_allLost_10 rfl rfl 1 rfl ?_
        refine z_aload_n 12 K dX8_allLost_11 rfl rfl 0 rfl ?_
        refine z_iload_n 13 K dX8_allLost_12 rfl rfl 2 rfl ?_
        refine z_vVi (As := [.int (iZ a)]) (rest := [.int (iZ n)]) 16 K 0 (by decide) hMa rfl rfl (m_X8_lostIn l g _ a cc nb lo hMa hSt hCi hCc hVw hLo (by omega) hcc hlo9) (cwV 1 K.1.2.2.2.2 gX8_allLost_X8_lostIn rfl rfl rfl (by decide +kernel) ⟨Nat.le_of_ble_eq_true rfl, Nat.le_of_ble_eq_true rfl⟩) rfl (Nat.le_of_ble_eq_true rfl) dX8_allLost_13 rfl ⟨Nat.le_of_ble_eq_true rfl, Nat.le_of_ble_eq_true rfl⟩ rfl (fun z_1 C_2 hp_13 => ?_)
        refine z_C hp_13.1 ?_
        refine z_top (iLi cc lo a) hp_13.2 ?_
        refine z_iadd 17 K dX8_allLost_16 rfl ?_
        refine z_top (iLi cc lo a + n) (by omega) ?_
        refine z_istore_n (lv' := [(1, .int (iZ (iLi cc lo a + n))), (0, .ref (aD g 0)), (2, .int (iZ a))]) 18 K dX8_allLost_17 rfl rfl (by decide) rfl ?_
        refine z_iinc (lv' := [(2, .int (iZ (a + 1))), (1, .int (iZ (iLi cc lo a + n))), (0, .ref (aD g 0))]) 21 K dX8_allLost_18 rfl (a + 1) rfl 2 rfl (by decide) rfl ?_
        refine z_goto (tgt := 4) K dX8_allLost_21 (by decide) ?_
        refine z_sub [2, 1, 0] rfl ?_
        exact ih_4 (iLi cc lo a + n) (a + 1) (by omega) (by rw [zsum_1 _ (by omega)]; omega) (by omega)
  refine z_sub [2, 1, 0] rfl ?_
  exact loop_4 (Int.toNat (12 - 0) + 1) 0 0 (by omega) rfl (by omega)
set_option maxRecDepth 20000 in
theorem hin_X8_allCitations_X0 : ∀ w ∈ wsX00, w ∈ wsX8_allCitations := by decide +kernel
set_option maxRecDepth 20000 in
theorem hin_X8_allCitations_X4 : ∀ w ∈ wsX40, w ∈ wsX8_allCitations := by decide +kernel
set_option maxRecDepth 20000 in
theorem hin_X8_allCitations_X8 : ∀ w ∈ wsX80, w ∈ wsX8_allCitations := by decide +kernel
set_option maxHeartbeats 4000000 in
set_option maxRecDepth 100000 in
theorem m_X8_allCitations (l : Launch) (g : zG) (C : Nat → va_E) (cc : Int → Int) (hMa : C 0 = .inr (8, [.ref (aD g 1), .ref (aD g 12), .ref (aD g 18), .ref (aD g 21), .ref (aD g 23), .ref (aD g 27)])) (hSt : C 1 = .inr (4, [.ref (aD g 2), .ref (aD g 5), .ref (aD g 9)])) (hCi : C 5 = .inr (0, [.ref (aD g 6), .ref (aD g 7), .ref (aD g 8)])) (hCc : C 6 = eI g 12 cc) : Met l yX8_allCitations wsX8_allCitations ({ frames := 0, cells := 0, slots := 0, locals := 0 } : Room) (zPre g C [.ref (aD g 0)]) (zQi g (fun z C' => C' = C ∧ z = zsum cc 12)) 0 0 (zA g) := by
  refine z_enter RX8 rfl (by decide) rfl (Nat.le_of_ble_eq_true rfl) ?_
  intro p e s m args below meth c K harg
  refine z_sub (lv' := [(0, .ref (aD g 0))]) [0] rfl ?_
  refine z_iconst 1 K dX8_allCitations_0 rfl ?_
  refine z_istore_n (lv' := [(1, .int (iZ 0)), (0, .ref (aD g 0))]) 2 K dX8_allCitations_1 rfl rfl (by decide) rfl ?_
  refine z_iconst 3 K dX8_allCitations_2 rfl ?_
  refine z_istore_n (lv' := [(2, .int (iZ 0)), (1, .int (iZ 0)), (0, .ref (aD g 0))]) 4 K dX8_allCitations_3 rfl rfl (by decide) rfl ?_
  have loop_4 : ∀ (n9 : Nat) (n a : Int), (0 ≤ a ∧ a ≤ 12) → (n = zsum cc a) → (12 - a < (n9 : Int)) → Z p l e (({ frames := 0, cells := 0, slots := 0, locals := 0 } : Room)) s m args below meth c (MQ below (zQi g (fun z C' => C' = C ∧ z = zsum cc 12)) args s 0 0 (zA g)) g 3 0 0 (C) [(0, .ref (aD g 0)), (1, .int (iZ n)), (2, .int (iZ a))] 4 [] := by
    intro n9
    induction n9 with
    | zero =>
      intro n a hka hn1 hm9
      exact absurd hm9 (by omega)
    | succ n9 ih9 =>
      intro n a hka hn1 hm_4
      have ih_4 := ih9
      clear ih9
      refine z_iload_n 5 K dX8_allCitations_4 rfl rfl 2 rfl ?_
      refine z_bipush 7 K dX8_allCitations_5 rfl rfl ?_
      refine z_icmp_ge (tgt := 31) 10 K dX8_allCitations_7 rfl (by decide) (by omega) (by decide) (fun c_7 => ?_) (fun c_7 => ?_)
      · skip
        refine z_iload_n 32 K dX8_allCitations_31 rfl rfl 1 rfl ?_
        exact z_iret K rfl dX8_allCitations_32 ⟨rfl, by rw [hn1, show a = 12 by omega]⟩
      · skip
        refine z_iload_n 11 K dX8_allCitations_10 rfl rfl 1 rfl ?_
        refine z_aload_n 12 K dX8_allCitations_11 rfl rfl 0 rfl ?_
        refine z_get 15 K hin_X8_allCitations_X8 0 (by decide) hMa rfl 0 (by decide) (by decide +kernel : Cond.fieldLink RX8 12 "BriefBuilder" "state" "LBriefBuilder$State;" ∈ wsX8_allCitations) (fun _ h9 => h9) rfl dX8_allCitations_12 rfl ?_
        refine z_get 18 K hin_X8_allCitations_X4 1 (by decide) hSt rfl 1 (by decide) (by decide +kernel : Cond.fieldLink RX8 111 "BriefBuilder$State" "citations" "LBriefBuilder$Citations;" ∈ wsX8_allCitations) (fun _ h9 => h9) rfl dX8_allCitations_15 rfl ?_
        refine z_get 21 K hin_X8_allCitations_X0 5 (by decide) hCi rfl 0 (by decide) (by decide +kernel : Cond.fieldLink RX8 131 "BriefBuilder$Citations" "counts" "[I" ∈ wsX8_allCitations) (fun _ h9 => h9) rfl dX8_allCitations_18 rfl ?_
        refine z_iload_n 22 K dX8_allCitations_21 rfl rfl 2 rfl ?_
        refine z_iald (f := cc) 23 K 6 (by decide) hCc (by omega) (by omega) (by decide) dX8_allCitations_22 rfl ?_
        refine z_iadd 24 K dX8_allCitations_23 rfl ?_
        refine z_top (cc a + n) (by omega) ?_
        refine z_istore_n (lv' := [(1, .int (iZ (cc a + n))), (0, .ref (aD g 0)), (2, .int (iZ a))]) 25 K dX8_allCitations_24 rfl rfl (by decide) rfl ?_
        refine z_iinc (lv' := [(2, .int (iZ (a + 1))), (1, .int (iZ (cc a + n))), (0, .ref (aD g 0))]) 28 K dX8_allCitations_25 rfl (a + 1) rfl 2 rfl (by decide) rfl ?_
        refine z_goto (tgt := 4) K dX8_allCitations_28 (by decide) ?_
        refine z_sub [2, 1, 0] rfl ?_
        exact ih_4 (cc a + n) (a + 1) (by omega) (by rw [zsum_1 _ (by omega)]; omega) (by omega)
  refine z_sub [2, 1, 0] rfl ?_
  exact loop_4 (Int.toNat (12 - 0) + 1) 0 0 (by omega) rfl (by omega)
set_option maxRecDepth 20000 in
theorem hin_X8_goodCitationsIn_X0 : ∀ w ∈ wsX00, w ∈ wsX8_goodCitationsIn := by decide +kernel
set_option maxRecDepth 20000 in
theorem hin_X8_goodCitationsIn_X4 : ∀ w ∈ wsX40, w ∈ wsX8_goodCitationsIn := by decide +kernel
set_option maxRecDepth 20000 in
theorem hin_X8_goodCitationsIn_X7 : ∀ w ∈ wsX70, w ∈ wsX8_goodCitationsIn := by decide +kernel
set_option maxRecDepth 20000 in
theorem hin_X8_goodCitationsIn_X8 : ∀ w ∈ wsX80, w ∈ wsX8_goodCitationsIn := by decide +kernel
set_option maxHeartbeats 4000000 in
set_option maxRecDepth 100000 in
theorem m_X8_goodCitationsIn (l : Launch) (g : zG) (C : Nat → va_E) (a : Int) (p0 : Int) (cc : Int → Int) (nb : Int) (lt : Int → Int) (lo : Int → Int) (hMa : C 0 = .inr (8, [.ref (aD g 1), .ref (aD g 12), .ref (aD g 18), .ref (aD g 21), .ref (aD g 23), .ref (aD g 27)])) (hSt : C 1 = .inr (4, [.ref (aD g 2), .ref (aD g 5), .ref (aD g 9)])) (hCi : C 5 = .inr (0, [.ref (aD g 6), .ref (aD g 7), .ref (aD g 8)])) (hCc : C 6 = eI g 12 cc) (hVw : C 12 = .inr (7, [.ref (aD g 13), .ref (aD g 14), .ref (aD g 15), .ref (aD g 16), .ref (aD g 17), .int (iZ nb)])) (hLe : C 16 = eI g 72 lt) (hLo : C 17 = eZ g 72 lo) (hpa : 0 ≤ a ∧ a < 12) (hcc : ∀ a, 0 ≤ a → a < 12 → 0 ≤ cc a ∧ cc a ≤ 6) (hlt9 : ∀ j, -1 ≤ lt j ∧ lt j ≤ 29) (hlo9 : ∀ j, lo j = 0 ∨ lo j = 1) (h_p : -2147483648 ≤ p0 ∧ p0 < 2147483648) : Met l yX8_goodCitationsIn wsX8_goodCitationsIn ({ frames := 1, cells := 0, slots := 0, locals := 21 } : Room) (zPre g C [.ref (aD g 0), .int (iZ a), .int (iZ p0)]) (zQi g (fun z C' => C' = C ∧ z = iGi cc lt lo a p0)) 0 0 (zA g) := by
  refine z_enter RX8 rfl (by decide) rfl (Nat.le_of_ble_eq_true rfl) ?_
  intro p e s m args below meth c K harg
  refine z_sub (lv' := [(0, .ref (aD g 0)), (1, .int (iZ a)), (2, .int (iZ p0))]) [0, 1, 2] rfl ?_
  have hca := hcc a hpa.1 hpa.2
  refine z_iconst 1 K dX8_goodCitationsIn_0 rfl ?_
  refine z_istore_n (lv' := [(3, .int (iZ 0)), (0, .ref (aD g 0)), (1, .int (iZ a)), (2, .int (iZ p0))]) 2 K dX8_goodCitationsIn_1 rfl rfl (by decide) rfl ?_
  refine z_iconst 3 K dX8_goodCitationsIn_2 rfl ?_
  refine z_istore (lv' := [(4, .int (iZ 0)), (3, .int (iZ 0)), (0, .ref (aD g 0)), (1, .int (iZ a)), (2, .int (iZ p0))]) 5 K dX8_goodCitationsIn_3 rfl (by decide) rfl ?_
  have loop_5 : ∀ (n9 : Nat) (n b : Int), (0 ≤ b ∧ b ≤ cc a) → (n = zsum (fun b => b2i (decide (lt (6 * a + b) = p0 ∧ lo (6 * a + b) = 0))) b) → (cc a - b < (n9 : Int)) → Z p l e (({ frames := 1, cells := 0, slots := 0, locals := 21 } : Room)) s m args below meth c (MQ below (zQi g (fun z C' => C' = C ∧ z = iGi cc lt lo a p0)) args s 0 0 (zA g)) g 6 0 0 (C) [(0, .ref (aD g 0)), (1, .int (iZ a)), (2, .int (iZ p0)), (3, .int (iZ n)), (4, .int (iZ b))] 5 [] := by
    intro n9
    induction n9 with
    | zero =>
      intro n b hkb hn1 hm9
      exact absurd hm9 (by omega)
    | succ n9 ih9 =>
      intro n b hkb hn1 hm_5
      have ih_5 := ih9
      clear ih9
      refine z_iload 7 K dX8_goodCitationsIn_5 rfl 4 rfl ?_
      refine z_aload_n 8 K dX8_goodCitationsIn_7 rfl rfl 0 rfl ?_
      refine z_get 11 K hin_X8_goodCitationsIn_X8 0 (by decide) hMa rfl 0 (by decide) (by decide +kernel : Cond.fieldLink RX8 12 "BriefBuilder" "state" "LBriefBuilder$State;" ∈ wsX8_goodCitationsIn) (fun _ h9 => h9) rfl dX8_goodCitationsIn_8 rfl ?_
      refine z_get 14 K hin_X8_goodCitationsIn_X4 1 (by decide) hSt rfl 1 (by decide) (by decide +kernel : Cond.fieldLink RX8 111 "BriefBuilder$State" "citations" "LBriefBuilder$Citations;" ∈ wsX8_goodCitationsIn) (fun _ h9 => h9) rfl dX8_goodCitationsIn_11 rfl ?_
      refine z_get 17 K hin_X8_goodCitationsIn_X0 5 (by decide) hCi rfl 0 (by decide) (by decide +kernel : Cond.fieldLink RX8 131 "BriefBuilder$Citations" "counts" "[I" ∈ wsX8_goodCitationsIn) (fun _ h9 => h9) rfl dX8_goodCitationsIn_14 rfl ?_
      refine z_iload_n 18 K dX8_goodCitationsIn_17 rfl rfl 1 rfl ?_
      refine z_iald (f := cc) 19 K 6 (by decide) hCc (by omega) (by omega) (by decide) dX8_goodCitationsIn_18 rfl ?_
      refine z_icmp_ge (tgt := 66) 22 K dX8_goodCitationsIn_19 rfl (by decide) (by omega) (by omega) (fun c_19 => ?_) (fun c_19 => ?_)
      · skip
        refine z_iload_n 67 K dX8_goodCitationsIn_66 rfl rfl 3 rfl ?_
        exact z_iret K rfl dX8_goodCitationsIn_67 ⟨rfl, by rw [hn1, show b = cc a by omega]; rfl⟩
      · skip
        refine z_iload_n 23 K dX8_goodCitationsIn_22 rfl rfl 1 rfl ?_
        refine z_iload 25 K dX8_goodCitationsIn_23 rfl 4 rfl ?_
        refine z_vSi (As := [.int (iZ a), .int (iZ b)]) (rest := []) 28 K (m_X8_cellOf l g _ a b ) (va_cwS 2 K.1.2.2.2.2 gX8_goodCitationsIn_X8_cellOf rfl rfl rfl (by decide +kernel) ⟨Nat.le_of_ble_eq_true rfl, Nat.le_of_ble_eq_true rfl⟩) rfl (Nat.le_of_ble_eq_true rfl) dX8_goodCitationsIn_25 rfl ⟨Nat.le_of_ble_eq_true rfl, Nat.le_of_ble_eq_true rfl⟩ rfl (fun z_1 C_2 hp_25 => ?_)
        refine z_C hp_25.1 ?_
        refine z_top (6 * a + b) hp_25.2 ?_
        refine z_istore (lv' := [(5, .int (iZ (6 * a + b))), (0, .ref (aD g 0)), (1, .int (iZ a)), (2, .int (iZ p0)), (3, .int (iZ n)), (4, .int (iZ b))]) 30 K dX8_goodCitationsIn_28 rfl (by decide) rfl ?_
        refine z_aload_n 31 K dX8_goodCitationsIn_30 rfl rfl 1 rfl ?_
        refine z_get 34 K hin_X8_goodCitationsIn_X8 0 (by decide) hMa rfl 1 (by decide) (by decide +kernel : Cond.fieldLink RX8 19 "BriefBuilder" "view" "LBriefBuilder$View;" ∈ wsX8_goodCitationsIn) (fun _ h9 => h9) rfl dX8_goodCitationsIn_31 rfl ?_
        refine z_get 37 K hin_X8_goodCitationsIn_X7 12 (by decide) hVw rfl 3 (by decide) (by decide +kernel : Cond.fieldLink RX8 164 "BriefBuilder$View" "letters" "[I" ∈ wsX8_goodCitationsIn) (fun _ h9 => h9) rfl dX8_goodCitationsIn_34 rfl ?_
        refine z_iload 39 K dX8_goodCitationsIn_37 rfl 0 rfl ?_
        refine z_iald (f := lt) 40 K 16 (by decide) hLe (by omega) (by omega) (by decide) dX8_goodCitationsIn_39 rfl ?_
        have hl8 := hlt9 (6 * a + b)
        refine z_iload_n 41 K dX8_goodCitationsIn_40 rfl rfl 3 rfl ?_
        refine z_icmp_ne (tgt := 60) 44 K dX8_goodCitationsIn_41 rfl (by decide) (by omega) (by omega) (fun c_41 => ?_) (fun c_41 => ?_)
        · skip
          refine z_iinc (lv' := [(4, .int (iZ (b + 1))), (5, .int (iZ (6 * a + b))), (0, .ref (aD g 0)), (1, .int (iZ a)), (2, .int (iZ p0)), (3, .int (iZ n))]) 63 K dX8_goodCitationsIn_60 rfl (b + 1) rfl 5 rfl (by decide) rfl ?_
          refine z_goto (tgt := 5) K dX8_goodCitationsIn_63 (by decide) ?_
          refine z_sub [2, 3, 4, 5, 0] rfl ?_
          exact ih_5 n (b + 1) (by omega) (by rw [zsum_1 _ (by omega)]; first | (have q9 : lt (6 * a + b) = p0 ∧ lo (6 * a + b) = 0 := (by omega); rw [b2i_1 q9]; omega) | (have q9 : ¬ (lt (6 * a + b) = p0 ∧ lo (6 * a + b) = 0) := (by omega); rw [b2i_0 q9]; omega)) (by omega)
        · skip
          refine z_aload_n 45 K dX8_goodCitationsIn_44 rfl rfl 1 rfl ?_
          refine z_get 48 K hin_X8_goodCitationsIn_X8 0 (by decide) hMa rfl 1 (by decide) (by decide +kernel : Cond.fieldLink RX8 19 "BriefBuilder" "view" "LBriefBuilder$View;" ∈ wsX8_goodCitationsIn) (fun _ h9 => h9) rfl dX8_goodCitationsIn_45 rfl ?_
          refine z_get 51 K hin_X8_goodCitationsIn_X7 12 (by decide) hVw rfl 4 (by decide) (by decide +kernel : Cond.fieldLink RX8 139 "BriefBuilder$View" "lost" "[Z" ∈ wsX8_goodCitationsIn) (fun _ h9 => h9) rfl dX8_goodCitationsIn_48 rfl ?_
          refine z_iload 53 K dX8_goodCitationsIn_51 rfl 0 rfl ?_
          refine z_zald (f := lo) 54 K 17 (by decide) hLo (by omega) (by omega) (by decide) dX8_goodCitationsIn_53 rfl ?_
          have hl9 := hlo9 (6 * a + b)
          refine z_if_ne (tgt := 60) 57 K dX8_goodCitationsIn_54 rfl (by decide) (by omega) (fun c_54 => ?_) (fun c_54 => ?_)
          · skip
            refine z_iinc (lv' := [(4, .int (iZ (b + 1))), (5, .int (iZ (6 * a + b))), (0, .ref (aD g 0)), (1, .int (iZ a)), (2, .int (iZ p0)), (3, .int (iZ n))]) 63 K dX8_goodCitationsIn_60 rfl (b + 1) rfl 5 rfl (by decide) rfl ?_
            refine z_goto (tgt := 5) K dX8_goodCitationsIn_63 (by decide) ?_
            refine z_sub [2, 3, 4, 5, 0] rfl ?_
            exact ih_5 n (b + 1) (by omega) (by rw [zsum_1 _ (by omega)]; first | (have q9 : lt (6 * a + b) = p0 ∧ lo (6 * a + b) = 0 := (by omega); rw [b2i_1 q9]; omega) | (have q9 : ¬ (lt (6 * a + b) = p0 ∧ lo (6 * a + b) = 0) := (by omega); rw [b2i_0 q9]; omega)) (by omega)
          · skip
            refine z_iinc (lv' := [(3, .int (iZ (n + 1))), (5, .int (iZ (6 * a + b))), (0, .ref (aD g 0)), (1, .int (iZ a)), (2, .int (iZ p0)), (4, .int (iZ b))]) 60 K dX8_goodCitationsIn_57 rfl (n + 1) rfl 4 rfl (by decide) rfl ?_
            refine z_iinc (lv' := [(4, .int (iZ (b + 1))), (3, .int (iZ (n + 1))), (5, .int (iZ (6 * a + b))), (0, .ref (aD g 0)), (1, .int (iZ a)), (2, .int (iZ p0))]) 63 K dX8_goodCitationsIn_60 rfl (b + 1) rfl 5 rfl (by decide) rfl ?_
            refine z_goto (tgt := 5) K dX8_goodCitationsIn_63 (by decide) ?_
            refine z_sub [3, 4, 5, 1, 0] rfl ?_
            exact ih_5 (n + 1) (b + 1) (by omega) (by rw [zsum_1 _ (by omega)]; first | (have q9 : lt (6 * a + b) = p0 ∧ lo (6 * a + b) = 0 := (by omega); rw [b2i_1 q9]; omega) | (have q9 : ¬ (lt (6 * a + b) = p0 ∧ lo (6 * a + b) = 0) := (by omega); rw [b2i_0 q9]; omega)) (by omega)
  refine z_sub [2, 3, 4, 1, 0] rfl ?_
  exact loop_5 (Int.toNat (cc a - 0) + 1) 0 0 (by omega) rfl (by omega)
set_option maxHeartbeats 4000000 in
set_option maxRecDepth 100000 in
theorem m_X8_goodCitationsOf (l : Launch) (g : zG) (C : Nat → va_E) (p0 : Int) (cc : Int → Int) (nb : Int) (lt : Int → Int) (lo : Int → Int) (hMa : C 0 = .inr (8, [.ref (aD g 1), .ref (aD g 12), .ref (aD g 18), .ref (aD g 21), .ref (aD g 23), .ref (aD g 27)])) (hSt : C 1 = .inr (4, [.ref (aD g 2), .ref (aD g 5), .ref (aD g 9)])) (hCi : C 5 = .inr (0, [.ref (aD g 6), .ref (aD g 7), .ref (aD g 8)])) (hCc : C 6 = eI g 12 cc) (hVw : C 12 = .inr (7, [.ref (aD g 13), .ref (aD g 14), .ref (aD g 15), .ref (aD g 16), .ref (aD g 17), .int (iZ nb)])) (hLe : C 16 = eI g 72 lt) (hLo : C 17 = eZ g 72 lo) (hcc : ∀ a, 0 ≤ a → a < 12 → 0 ≤ cc a ∧ cc a ≤ 6) (hlt9 : ∀ j, -1 ≤ lt j ∧ lt j ≤ 29) (hlo9 : ∀ j, lo j = 0 ∨ lo j = 1) (h_p : -2147483648 ≤ p0 ∧ p0 < 2147483648) : Met l yX8_goodCitationsOf wsX8_goodCitationsOf ({ frames := 2, cells := 0, slots := 0, locals := 46 } : Room) (zPre g C [.ref (aD g 0), .int (iZ p0)]) (zQi g (fun z C' => C' = C ∧ z = iGo cc lt lo p0)) 0 0 (zA g) := by
  refine z_enter RX8 rfl (by decide) rfl (Nat.le_of_ble_eq_true rfl) ?_
  intro p e s m args below meth c K harg
  refine z_sub (lv' := [(0, .ref (aD g 0)), (1, .int (iZ p0))]) [0, 1] rfl ?_
  refine z_iconst 1 K dX8_goodCitationsOf_0 rfl ?_
  refine z_istore_n (lv' := [(2, .int (iZ 0)), (0, .ref (aD g 0)), (1, .int (iZ p0))]) 2 K dX8_goodCitationsOf_1 rfl rfl (by decide) rfl ?_
  refine z_iconst 3 K dX8_goodCitationsOf_2 rfl ?_
  refine z_istore_n (lv' := [(3, .int (iZ 0)), (2, .int (iZ 0)), (0, .ref (aD g 0)), (1, .int (iZ p0))]) 4 K dX8_goodCitationsOf_3 rfl rfl (by decide) rfl ?_
  have loop_4 : ∀ (n9 : Nat) (n a : Int), (0 ≤ a ∧ a ≤ 12) → (n = zsum (fun a => iGi cc lt lo a p0) a) → (12 - a < (n9 : Int)) → Z p l e (({ frames := 2, cells := 0, slots := 0, locals := 46 } : Room)) s m args below meth c (MQ below (zQi g (fun z C' => C' = C ∧ z = iGo cc lt lo p0)) args s 0 0 (zA g)) g 4 0 0 (C) [(0, .ref (aD g 0)), (1, .int (iZ p0)), (2, .int (iZ n)), (3, .int (iZ a))] 4 [] := by
    intro n9
    induction n9 with
    | zero =>
      intro n a hka hn1 hm9
      exact absurd hm9 (by omega)
    | succ n9 ih9 =>
      intro n a hka hn1 hm_4
      have ih_4 := ih9
      clear ih9
      refine z_iload_n 5 K dX8_goodCitationsOf_4 rfl rfl 3 rfl ?_
      refine z_bipush 7 K dX8_goodCitationsOf_5 rfl rfl ?_
      refine z_icmp_ge (tgt := 25) 10 K dX8_goodCitationsOf_7 rfl (by decide) (by omega) (by decide) (fun c_7 => ?_) (fun c_7 => ?_)
      · skip
        refine z_iload_n 26 K dX8_goodCitationsOf_25 rfl rfl 2 rfl ?_
        exact z_iret K rfl dX8_goodCitationsOf_26 ⟨rfl, by rw [hn1, show a = 12 by omega]; rfl⟩
      · skip
        refine z_iload_n 11 K dX8_goodCitationsOf_10 rfl rfl 2 rfl ?_
        refine z_aload_n 12 K dX8_goodCitationsOf_11 rfl rfl 0 rfl ?_
        refine z_iload_n 13 K dX8_goodCitationsOf_12 rfl rfl 3 rfl ?_
        refine z_iload_n 14 K dX8_goodCitationsOf_13 rfl rfl 1 rfl ?_
        refine z_vVi (As := [.int (iZ a), .int (iZ p0)]) (rest := [.int (iZ n)]) 17 K 0 (by decide) hMa rfl rfl (m_X8_goodCitationsIn l g _ a p0 cc nb lt lo hMa hSt hCi hCc hVw hLe hLo (by omega) hcc hlt9 hlo9 (by omega)) (cwV 2 K.1.2.2.2.2 gX8_goodCitationsOf_X8_goodCitationsIn rfl rfl rfl (by decide +kernel) ⟨Nat.le_of_ble_eq_true rfl, Nat.le_of_ble_eq_true rfl⟩) rfl (Nat.le_of_ble_eq_true rfl) dX8_goodCitationsOf_14 rfl ⟨Nat.le_of_ble_eq_true rfl, Nat.le_of_ble_eq_true rfl⟩ rfl (fun z_1 C_2 hp_14 => ?_)
        refine z_C hp_14.1 ?_
        refine z_top (iGi cc lt lo a p0) hp_14.2 ?_
        refine z_iadd 18 K dX8_goodCitationsOf_17 rfl ?_
        refine z_top (iGi cc lt lo a p0 + n) (by omega) ?_
        refine z_istore_n (lv' := [(2, .int (iZ (iGi cc lt lo a p0 + n))), (0, .ref (aD g 0)), (1, .int (iZ p0)), (3, .int (iZ a))]) 19 K dX8_goodCitationsOf_18 rfl rfl (by decide) rfl ?_
        refine z_iinc (lv' := [(3, .int (iZ (a + 1))), (2, .int (iZ (iGi cc lt lo a p0 + n))), (0, .ref (aD g 0)), (1, .int (iZ p0))]) 22 K dX8_goodCitationsOf_19 rfl (a + 1) rfl 3 rfl (by decide) rfl ?_
        refine z_goto (tgt := 4) K dX8_goodCitationsOf_22 (by decide) ?_
        refine z_sub [2, 3, 1, 0] rfl ?_
        exact ih_4 (iGi cc lt lo a p0 + n) (a + 1) (by omega) (by rw [zsum_1 _ (by omega)]; omega) (by omega)
  refine z_sub [2, 3, 1, 0] rfl ?_
  exact loop_4 (Int.toNat (12 - 0) + 1) 0 0 (by omega) rfl (by omega)
set_option maxRecDepth 20000 in
theorem hin_X8_citedExhibits_X1 : ∀ w ∈ wsX10, w ∈ wsX8_citedExhibits := by decide +kernel
set_option maxRecDepth 20000 in
theorem hin_X8_citedExhibits_X4 : ∀ w ∈ wsX40, w ∈ wsX8_citedExhibits := by decide +kernel
set_option maxRecDepth 20000 in
theorem hin_X8_citedExhibits_X8 : ∀ w ∈ wsX80, w ∈ wsX8_citedExhibits := by decide +kernel
set_option maxHeartbeats 4000000 in
set_option maxRecDepth 100000 in
theorem m_X8_citedExhibits (l : Launch) (g : zG) (C : Nat → va_E) (cc : Int → Int) (cnt : Int) (nxt : Int) (bp : Int) (nb : Int) (lt : Int → Int) (lo : Int → Int) (hMa : C 0 = .inr (8, [.ref (aD g 1), .ref (aD g 12), .ref (aD g 18), .ref (aD g 21), .ref (aD g 23), .ref (aD g 27)])) (hSt : C 1 = .inr (4, [.ref (aD g 2), .ref (aD g 5), .ref (aD g 9)])) (hCi : C 5 = .inr (0, [.ref (aD g 6), .ref (aD g 7), .ref (aD g 8)])) (hCc : C 6 = eI g 12 cc) (hEx : C 2 = .inr (1, [.ref (aD g 3), .ref (aD g 4), .int (iZ cnt), .int (iZ nxt), .int (iZ bp)])) (hVw : C 12 = .inr (7, [.ref (aD g 13), .ref (aD g 14), .ref (aD g 15), .ref (aD g 16), .ref (aD g 17), .int (iZ nb)])) (hLe : C 16 = eI g 72 lt) (hLo : C 17 = eZ g 72 lo) (hcnt : 0 ≤ cnt ∧ cnt ≤ 30) (hcc : ∀ a, 0 ≤ a → a < 12 → 0 ≤ cc a ∧ cc a ≤ 6) (hlt9 : ∀ j, -1 ≤ lt j ∧ lt j ≤ 29) (hlo9 : ∀ j, lo j = 0 ∨ lo j = 1) : Met l yX8_citedExhibits wsX8_citedExhibits ({ frames := 3, cells := 0, slots := 0, locals := 69 } : Room) (zPre g C [.ref (aD g 0)]) (zQi g (fun z C' => C' = C ∧ z = iCe cc lt lo cnt)) 0 0 (zA g) := by
  refine z_enter RX8 rfl (by decide) rfl (Nat.le_of_ble_eq_true rfl) ?_
  intro p e s m args below meth c K harg
  refine z_sub (lv' := [(0, .ref (aD g 0))]) [0] rfl ?_
  refine z_iconst 1 K dX8_citedExhibits_0 rfl ?_
  refine z_istore_n (lv' := [(1, .int (iZ 0)), (0, .ref (aD g 0))]) 2 K dX8_citedExhibits_1 rfl rfl (by decide) rfl ?_
  refine z_iconst 3 K dX8_citedExhibits_2 rfl ?_
  refine z_istore_n (lv' := [(2, .int (iZ 0)), (1, .int (iZ 0)), (0, .ref (aD g 0))]) 4 K dX8_citedExhibits_3 rfl rfl (by decide) rfl ?_
  have loop_4 : ∀ (n9 : Nat) (n kk : Int), (0 ≤ kk ∧ kk ≤ cnt) → (n = zsum (fun k => b2i (decide (0 < iGo cc lt lo k))) kk) → (cnt - kk < (n9 : Int)) → Z p l e (({ frames := 3, cells := 0, slots := 0, locals := 69 } : Room)) s m args below meth c (MQ below (zQi g (fun z C' => C' = C ∧ z = iCe cc lt lo cnt)) args s 0 0 (zA g)) g 3 0 0 (C) [(0, .ref (aD g 0)), (1, .int (iZ n)), (2, .int (iZ kk))] 4 [] := by
    intro n9
    induction n9 with
    | zero =>
      intro n kk hkk hn1 hm9
      exact absurd hm9 (by omega)
    | succ n9 ih9 =>
      intro n kk hkk hn1 hm_4
      have ih_4 := ih9
      clear ih9
      refine z_iload_n 5 K dX8_citedExhibits_4 rfl rfl 2 rfl ?_
      refine z_aload_n 6 K dX8_citedExhibits_5 rfl rfl 0 rfl ?_
      refine z_get 9 K hin_X8_citedExhibits_X8 0 (by decide) hMa rfl 0 (by decide) (by decide +kernel : Cond.fieldLink RX8 12 "BriefBuilder" "state" "LBriefBuilder$State;" ∈ wsX8_citedExhibits) (fun _ h9 => h9) rfl dX8_citedExhibits_6 rfl ?_
      refine z_get 12 K hin_X8_citedExhibits_X4 1 (by decide) hSt rfl 0 (by decide) (by decide +kernel : Cond.fieldLink RX8 48 "BriefBuilder$State" "exhibits" "LBriefBuilder$Exhibits;" ∈ wsX8_citedExhibits) (fun _ h9 => h9) rfl dX8_citedExhibits_9 rfl ?_
      refine z_get 15 K hin_X8_citedExhibits_X1 2 (by decide) hEx rfl 2 (by decide) (by decide +kernel : Cond.fieldLink RX8 95 "BriefBuilder$Exhibits" "count" "I" ∈ wsX8_citedExhibits) (fun _ h9 => h9) rfl dX8_citedExhibits_12 rfl ?_
      refine z_icmp_ge (tgt := 35) 18 K dX8_citedExhibits_15 rfl (by decide) (by omega) (by omega) (fun c_15 => ?_) (fun c_15 => ?_)
      · skip
        refine z_iload_n 36 K dX8_citedExhibits_35 rfl rfl 1 rfl ?_
        exact z_iret K rfl dX8_citedExhibits_36 ⟨rfl, by rw [hn1, show kk = cnt by omega]; rfl⟩
      · skip
        refine z_aload_n 19 K dX8_citedExhibits_18 rfl rfl 0 rfl ?_
        refine z_iload_n 20 K dX8_citedExhibits_19 rfl rfl 2 rfl ?_
        refine z_vVi (As := [.int (iZ kk)]) (rest := []) 23 K 0 (by decide) hMa rfl rfl (m_X8_goodCitationsOf l g _ kk cc nb lt lo hMa hSt hCi hCc hVw hLe hLo hcc hlt9 hlo9 (by omega)) (cwV 1 K.1.2.2.2.2 gX8_citedExhibits_X8_goodCitationsOf rfl rfl rfl (by decide +kernel) ⟨Nat.le_of_ble_eq_true rfl, Nat.le_of_ble_eq_true rfl⟩) rfl (Nat.le_of_ble_eq_true rfl) dX8_citedExhibits_20 rfl ⟨Nat.le_of_ble_eq_true rfl, Nat.le_of_ble_eq_true rfl⟩ rfl (fun z_1 C_2 hp_20 => ?_)
        refine z_C hp_20.1 ?_
        refine z_top (iGo cc lt lo kk) hp_20.2 ?_
        have hgo := iGo_rng (lt := lt) (lo := lo) (p := kk) hcc
        refine z_if_le (tgt := 29) 26 K dX8_citedExhibits_23 rfl (by decide) (by omega) (fun c_23 => ?_) (fun c_23 => ?_)
        · skip
          refine z_iinc (lv' := [(2, .int (iZ (kk + 1))), (0, .ref (aD g 0)), (1, .int (iZ n))]) 32 K dX8_citedExhibits_29 rfl (kk + 1) rfl 2 rfl (by decide) rfl ?_
          refine z_goto (tgt := 4) K dX8_citedExhibits_32 (by decide) ?_
          refine z_sub [1, 2, 0] rfl ?_
          exact ih_4 n (kk + 1) (by omega) (by rw [zsum_1 _ (by omega)]; first | (have q9 : 0 < iGo cc lt lo kk := (by omega); rw [b2i_1 q9]; omega) | (have q9 : ¬ 0 < iGo cc lt lo kk := (by omega); rw [b2i_0 q9]; omega)) (by omega)
        · skip
          refine z_iinc (lv' := [(1, .int (iZ (n + 1))), (0, .ref (aD g 0)), (2, .int (iZ kk))]) 29 K dX8_citedExhibits_26 rfl (n + 1) rfl 1 rfl (by decide) rfl ?_
          refine z_iinc (lv' := [(2, .int (iZ (kk + 1))), (1, .int (iZ (n + 1))), (0, .ref (aD g 0))]) 32 K dX8_citedExhibits_29 rfl (kk + 1) rfl 2 rfl (by decide) rfl ?_
          refine z_goto (tgt := 4) K dX8_citedExhibits_32 (by decide) ?_
          refine z_sub [2, 1, 0] rfl ?_
          exact ih_4 (n + 1) (kk + 1) (by omega) (by rw [zsum_1 _ (by omega)]; first | (have q9 : 0 < iGo cc lt lo kk := (by omega); rw [b2i_1 q9]; omega) | (have q9 : ¬ 0 < iGo cc lt lo kk := (by omega); rw [b2i_0 q9]; omega)) (by omega)
  refine z_sub [2, 1, 0] rfl ?_
  exact loop_4 (Int.toNat (cnt - 0) + 1) 0 0 (by omega) rfl (by omega)
set_option maxRecDepth 20000 in
theorem hin_X8_citationsOf_X0 : ∀ w ∈ wsX00, w ∈ wsX8_citationsOf := by decide +kernel
set_option maxRecDepth 20000 in
theorem hin_X8_citationsOf_X4 : ∀ w ∈ wsX40, w ∈ wsX8_citationsOf := by decide +kernel
set_option maxRecDepth 20000 in
theorem hin_X8_citationsOf_X7 : ∀ w ∈ wsX70, w ∈ wsX8_citationsOf := by decide +kernel
set_option maxRecDepth 20000 in
theorem hin_X8_citationsOf_X8 : ∀ w ∈ wsX80, w ∈ wsX8_citationsOf := by decide +kernel
set_option maxHeartbeats 4000000 in
set_option maxRecDepth 100000 in
theorem m_X8_citationsOf (l : Launch) (g : zG) (C : Nat → va_E) (p0 : Int) (cc : Int → Int) (nb : Int) (lt : Int → Int) (hMa : C 0 = .inr (8, [.ref (aD g 1), .ref (aD g 12), .ref (aD g 18), .ref (aD g 21), .ref (aD g 23), .ref (aD g 27)])) (hSt : C 1 = .inr (4, [.ref (aD g 2), .ref (aD g 5), .ref (aD g 9)])) (hCi : C 5 = .inr (0, [.ref (aD g 6), .ref (aD g 7), .ref (aD g 8)])) (hCc : C 6 = eI g 12 cc) (hVw : C 12 = .inr (7, [.ref (aD g 13), .ref (aD g 14), .ref (aD g 15), .ref (aD g 16), .ref (aD g 17), .int (iZ nb)])) (hLe : C 16 = eI g 72 lt) (hcc : ∀ a, 0 ≤ a → a < 12 → 0 ≤ cc a ∧ cc a ≤ 6) (hlt9 : ∀ j, -1 ≤ lt j ∧ lt j ≤ 29) (h_p : -2147483648 ≤ p0 ∧ p0 < 2147483648) : Met l yX8_citationsOf wsX8_citationsOf ({ frames := 1, cells := 0, slots := 0, locals := 21 } : Room) (zPre g C [.ref (aD g 0), .int (iZ p0)]) (zQi g (fun z C' => C' = C ∧ z = iCo cc lt p0)) 0 0 (zA g) := by
  refine z_enter RX8 rfl (by decide) rfl (Nat.le_of_ble_eq_true rfl) ?_
  intro p e s m args below meth c K harg
  refine z_sub (lv' := [(0, .ref (aD g 0)), (1, .int (iZ p0))]) [0, 1] rfl ?_
  refine z_iconst 1 K dX8_citationsOf_0 rfl ?_
  refine z_istore_n (lv' := [(2, .int (iZ 0)), (0, .ref (aD g 0)), (1, .int (iZ p0))]) 2 K dX8_citationsOf_1 rfl rfl (by decide) rfl ?_
  refine z_iconst 3 K dX8_citationsOf_2 rfl ?_
  refine z_istore_n (lv' := [(3, .int (iZ 0)), (2, .int (iZ 0)), (0, .ref (aD g 0)), (1, .int (iZ p0))]) 4 K dX8_citationsOf_3 rfl rfl (by decide) rfl ?_
  have loop_4 : ∀ (n9 : Nat) (n a : Int), (0 ≤ a ∧ a ≤ 12) → (n = zsum (fun a => zsum (fun b => b2i (decide (lt (6 * a + b) = p0))) (cc a)) a) → (12 - a < (n9 : Int)) → Z p l e (({ frames := 1, cells := 0, slots := 0, locals := 21 } : Room)) s m args below meth c (MQ below (zQi g (fun z C' => C' = C ∧ z = iCo cc lt p0)) args s 0 0 (zA g)) g 5 0 0 (C) [(0, .ref (aD g 0)), (1, .int (iZ p0)), (2, .int (iZ n)), (3, .int (iZ a))] 4 [] := by
    intro n9
    induction n9 with
    | zero =>
      intro n a hka hn1 hm9
      exact absurd hm9 (by omega)
    | succ n9 ih9 =>
      intro n a hka hn1 hm_4
      have ih_4 := ih9
      clear ih9
      refine z_iload_n 5 K dX8_citationsOf_4 rfl rfl 3 rfl ?_
      refine z_bipush 7 K dX8_citationsOf_5 rfl rfl ?_
      refine z_icmp_ge (tgt := 63) 10 K dX8_citationsOf_7 rfl (by decide) (by omega) (by decide) (fun c_7 => ?_) (fun c_7 => ?_)
      · skip
        refine z_iload_n 64 K dX8_citationsOf_63 rfl rfl 2 rfl ?_
        exact z_iret K rfl dX8_citationsOf_64 ⟨rfl, by rw [hn1, show a = 12 by omega]; rfl⟩
      · skip
        have hca := hcc a (by omega) (by omega)
        refine z_iconst 11 K dX8_citationsOf_10 rfl ?_
        refine z_istore (lv' := [(4, .int (iZ 0)), (0, .ref (aD g 0)), (1, .int (iZ p0)), (2, .int (iZ n)), (3, .int (iZ a))]) 13 K dX8_citationsOf_11 rfl (by decide) rfl ?_
        have loop_13 : ∀ (n9 : Nat) (n2 b : Int), (0 ≤ b ∧ b ≤ cc a) → (n2 = n + zsum (fun b => b2i (decide (lt (6 * a + b) = p0))) b) → (cc a - b < (n9 : Int)) → Z p l e (({ frames := 1, cells := 0, slots := 0, locals := 21 } : Room)) s m args below meth c (MQ below (zQi g (fun z C' => C' = C ∧ z = iCo cc lt p0)) args s 0 0 (zA g)) g 5 0 0 (C) [(0, .ref (aD g 0)), (1, .int (iZ p0)), (2, .int (iZ n2)), (3, .int (iZ a)), (4, .int (iZ b))] 13 [] := by
          intro n9
          induction n9 with
          | zero =>
            intro n2 b hkb hn2 hm9
            exact absurd hm9 (by omega)
          | succ n9 ih9 =>
            intro n2 b hkb hn2 hm_13
            have ih_13 := ih9
            clear ih9
            refine z_iload 15 K dX8_citationsOf_13 rfl 4 rfl ?_
            refine z_aload_n 16 K dX8_citationsOf_15 rfl rfl 0 rfl ?_
            refine z_get 19 K hin_X8_citationsOf_X8 0 (by decide) hMa rfl 0 (by decide) (by decide +kernel : Cond.fieldLink RX8 12 "BriefBuilder" "state" "LBriefBuilder$State;" ∈ wsX8_citationsOf) (fun _ h9 => h9) rfl dX8_citationsOf_16 rfl ?_
            refine z_get 22 K hin_X8_citationsOf_X4 1 (by decide) hSt rfl 1 (by decide) (by decide +kernel : Cond.fieldLink RX8 111 "BriefBuilder$State" "citations" "LBriefBuilder$Citations;" ∈ wsX8_citationsOf) (fun _ h9 => h9) rfl dX8_citationsOf_19 rfl ?_
            refine z_get 25 K hin_X8_citationsOf_X0 5 (by decide) hCi rfl 0 (by decide) (by decide +kernel : Cond.fieldLink RX8 131 "BriefBuilder$Citations" "counts" "[I" ∈ wsX8_citationsOf) (fun _ h9 => h9) rfl dX8_citationsOf_22 rfl ?_
            refine z_iload_n 26 K dX8_citationsOf_25 rfl rfl 3 rfl ?_
            refine z_iald (f := cc) 27 K 6 (by decide) hCc (by omega) (by omega) (by decide) dX8_citationsOf_26 rfl ?_
            refine z_icmp_ge (tgt := 57) 30 K dX8_citationsOf_27 rfl (by decide) (by omega) (by omega) (fun c_27 => ?_) (fun c_27 => ?_)
            · skip
              refine z_iinc (lv' := [(3, .int (iZ (a + 1))), (0, .ref (aD g 0)), (1, .int (iZ p0)), (2, .int (iZ n2)), (4, .int (iZ b))]) 60 K dX8_citationsOf_57 rfl (a + 1) rfl 3 rfl (by decide) rfl ?_
              refine z_goto (tgt := 4) K dX8_citationsOf_60 (by decide) ?_
              refine z_sub [1, 2, 3, 0] rfl ?_
              exact ih_4 n2 (a + 1) (by omega) (by rw [zsum_1 _ (by omega), ← hn1, hn2, show b = cc a by omega]) (by omega)
            · skip
              refine z_aload_n 31 K dX8_citationsOf_30 rfl rfl 0 rfl ?_
              refine z_get 34 K hin_X8_citationsOf_X8 0 (by decide) hMa rfl 1 (by decide) (by decide +kernel : Cond.fieldLink RX8 19 "BriefBuilder" "view" "LBriefBuilder$View;" ∈ wsX8_citationsOf) (fun _ h9 => h9) rfl dX8_citationsOf_31 rfl ?_
              refine z_get 37 K hin_X8_citationsOf_X7 12 (by decide) hVw rfl 3 (by decide) (by decide +kernel : Cond.fieldLink RX8 164 "BriefBuilder$View" "letters" "[I" ∈ wsX8_citationsOf) (fun _ h9 => h9) rfl dX8_citationsOf_34 rfl ?_
              refine z_iload_n 38 K dX8_citationsOf_37 rfl rfl 3 rfl ?_
              refine z_iload 40 K dX8_citationsOf_38 rfl 4 rfl ?_
              refine z_vSi (As := [.int (iZ a), .int (iZ b)]) (rest := [.ref (aD g 16)]) 43 K (m_X8_cellOf l g _ a b ) (va_cwS 2 K.1.2.2.2.2 gX8_citationsOf_X8_cellOf rfl rfl rfl (by decide +kernel) ⟨Nat.le_of_ble_eq_true rfl, Nat.le_of_ble_eq_true rfl⟩) rfl (Nat.le_of_ble_eq_true rfl) dX8_citationsOf_40 rfl ⟨Nat.le_of_ble_eq_true rfl, Nat.le_of_ble_eq_true rfl⟩ rfl (fun z_1 C_2 hp_40 => ?_)
              refine z_C hp_40.1 ?_
              refine z_top (6 * a + b) hp_40.2 ?_
              refine z_iald (f := lt) 44 K 16 (by decide) hLe (by omega) (by omega) (by decide) dX8_citationsOf_43 rfl ?_
              have hl8 := hlt9 (6 * a + b)
              refine z_iload_n 45 K dX8_citationsOf_44 rfl rfl 1 rfl ?_
              refine z_icmp_ne (tgt := 51) 48 K dX8_citationsOf_45 rfl (by decide) (by omega) (by omega) (fun c_45 => ?_) (fun c_45 => ?_)
              · skip
                refine z_iinc (lv' := [(4, .int (iZ (b + 1))), (0, .ref (aD g 0)), (1, .int (iZ p0)), (2, .int (iZ n2)), (3, .int (iZ a))]) 54 K dX8_citationsOf_51 rfl (b + 1) rfl 4 rfl (by decide) rfl ?_
                refine z_goto (tgt := 13) K dX8_citationsOf_54 (by decide) ?_
                refine z_sub [1, 2, 3, 4, 0] rfl ?_
                exact ih_13 n2 (b + 1) (by omega) (by rw [zsum_1 _ (by omega)]; first | (have q9 : lt (6 * a + b) = p0 := (by omega); rw [b2i_1 q9]; omega) | (have q9 : ¬ lt (6 * a + b) = p0 := (by omega); rw [b2i_0 q9]; omega)) (by omega)
              · skip
                refine z_iinc (lv' := [(2, .int (iZ (n2 + 1))), (0, .ref (aD g 0)), (1, .int (iZ p0)), (3, .int (iZ a)), (4, .int (iZ b))]) 51 K dX8_citationsOf_48 rfl (n2 + 1) rfl 2 rfl (by decide) rfl ?_
                refine z_iinc (lv' := [(4, .int (iZ (b + 1))), (2, .int (iZ (n2 + 1))), (0, .ref (aD g 0)), (1, .int (iZ p0)), (3, .int (iZ a))]) 54 K dX8_citationsOf_51 rfl (b + 1) rfl 4 rfl (by decide) rfl ?_
                refine z_goto (tgt := 13) K dX8_citationsOf_54 (by decide) ?_
                refine z_sub [2, 3, 1, 4, 0] rfl ?_
                exact ih_13 (n2 + 1) (b + 1) (by omega) (by rw [zsum_1 _ (by omega)]; first | (have q9 : lt (6 * a + b) = p0 := (by omega); rw [b2i_1 q9]; omega) | (have q9 : ¬ lt (6 * a + b) = p0 := (by omega); rw [b2i_0 q9]; omega)) (by omega)
        refine z_sub [1, 2, 3, 4, 0] rfl ?_
        exact loop_13 (Int.toNat (cc a - 0) + 1) n 0 (by omega) (by rw [zsum_0]; omega) (by omega)
  refine z_sub [2, 3, 1, 0] rfl ?_
  exact loop_4 (Int.toNat (12 - 0) + 1) 0 0 (by omega) rfl (by omega)
set_option maxRecDepth 20000 in
theorem hin_X8_pageInBrief_X0 : ∀ w ∈ wsX00, w ∈ wsX8_pageInBrief := by decide +kernel
set_option maxRecDepth 20000 in
theorem hin_X8_pageInBrief_X4 : ∀ w ∈ wsX40, w ∈ wsX8_pageInBrief := by decide +kernel
set_option maxRecDepth 20000 in
theorem hin_X8_pageInBrief_X7 : ∀ w ∈ wsX70, w ∈ wsX8_pageInBrief := by decide +kernel
set_option maxRecDepth 20000 in
theorem hin_X8_pageInBrief_X8 : ∀ w ∈ wsX80, w ∈ wsX8_pageInBrief := by decide +kernel
set_option maxHeartbeats 4000000 in
set_option maxRecDepth 100000 in
theorem m_X8_pageInBrief (l : Launch) (g : zG) (C : Nat → va_E) (kk : Int) (cc : Int → Int) (cp : Int → Int) (nb : Int) (vf : Int → Int) (lt : Int → Int) (lo : Int → Int) (hMa : C 0 = .inr (8, [.ref (aD g 1), .ref (aD g 12), .ref (aD g 18), .ref (aD g 21), .ref (aD g 23), .ref (aD g 27)])) (hSt : C 1 = .inr (4, [.ref (aD g 2), .ref (aD g 5), .ref (aD g 9)])) (hCi : C 5 = .inr (0, [.ref (aD g 6), .ref (aD g 7), .ref (aD g 8)])) (hCc : C 6 = eI g 12 cc) (hCp : C 8 = eI g 72 cp) (hVw : C 12 = .inr (7, [.ref (aD g 13), .ref (aD g 14), .ref (aD g 15), .ref (aD g 16), .ref (aD g 17), .int (iZ nb)])) (hVf : C 15 = eI g 30 vf) (hLe : C 16 = eI g 72 lt) (hLo : C 17 = eZ g 72 lo) (hk : 0 ≤ kk ∧ kk < 72) (hlt9 : ∀ j, -1 ≤ lt j ∧ lt j ≤ 29) (hlo9 : ∀ j, lo j = 0 ∨ lo j = 1) : Met l yX8_pageInBrief wsX8_pageInBrief ({ frames := 0, cells := 0, slots := 0, locals := 0 } : Room) (zPre g C [.ref (aD g 0), .int (iZ kk)]) (zQi g (fun z C' => C' = C ∧ z = if lt kk = -1 ∨ lo kk ≠ 0 then -1 else vf (lt kk) + cp kk - 1)) 0 0 (zA g) := by
  refine z_enter RX8 rfl (by decide) rfl (Nat.le_of_ble_eq_true rfl) ?_
  intro p e s m args below meth c K harg
  refine z_sub (lv' := [(0, .ref (aD g 0)), (1, .int (iZ kk))]) [0, 1] rfl ?_
  refine z_aload_n 1 K dX8_pageInBrief_0 rfl rfl 0 rfl ?_
  refine z_get 4 K hin_X8_pageInBrief_X8 0 (by decide) hMa rfl 1 (by decide) (by decide +kernel : Cond.fieldLink RX8 19 "BriefBuilder" "view" "LBriefBuilder$View;" ∈ wsX8_pageInBrief) (fun _ h9 => h9) rfl dX8_pageInBrief_1 rfl ?_
  refine z_get 7 K hin_X8_pageInBrief_X7 12 (by decide) hVw rfl 3 (by decide) (by decide +kernel : Cond.fieldLink RX8 164 "BriefBuilder$View" "letters" "[I" ∈ wsX8_pageInBrief) (fun _ h9 => h9) rfl dX8_pageInBrief_4 rfl ?_
  refine z_iload_n 8 K dX8_pageInBrief_7 rfl rfl 1 rfl ?_
  refine z_iald (f := lt) 9 K 16 (by decide) hLe (by omega) (by omega) (by decide) dX8_pageInBrief_8 rfl ?_
  have hl8 := hlt9 kk
  refine z_istore_n (lv' := [(2, .int (iZ (lt kk))), (0, .ref (aD g 0)), (1, .int (iZ kk))]) 10 K dX8_pageInBrief_9 rfl rfl (by decide) rfl ?_
  refine z_iload_n 11 K dX8_pageInBrief_10 rfl rfl 0 rfl ?_
  refine z_iconst 12 K dX8_pageInBrief_11 rfl ?_
  refine z_icmp_eq (tgt := 27) 15 K dX8_pageInBrief_12 rfl (by decide) (by omega) (by decide) (fun c_12 => ?_) (fun c_12 => ?_)
  · skip
    refine z_iconst 28 K dX8_pageInBrief_27 rfl ?_
    exact z_iret K rfl dX8_pageInBrief_28 ⟨rfl, by rw [if_pos (show lt kk = -1 ∨ lo kk ≠ 0 by omega)]⟩
  · skip
    refine z_aload_n 16 K dX8_pageInBrief_15 rfl rfl 1 rfl ?_
    refine z_get 19 K hin_X8_pageInBrief_X8 0 (by decide) hMa rfl 1 (by decide) (by decide +kernel : Cond.fieldLink RX8 19 "BriefBuilder" "view" "LBriefBuilder$View;" ∈ wsX8_pageInBrief) (fun _ h9 => h9) rfl dX8_pageInBrief_16 rfl ?_
    refine z_get 22 K hin_X8_pageInBrief_X7 12 (by decide) hVw rfl 4 (by decide) (by decide +kernel : Cond.fieldLink RX8 139 "BriefBuilder$View" "lost" "[Z" ∈ wsX8_pageInBrief) (fun _ h9 => h9) rfl dX8_pageInBrief_19 rfl ?_
    refine z_iload_n 23 K dX8_pageInBrief_22 rfl rfl 2 rfl ?_
    refine z_zald (f := lo) 24 K 17 (by decide) hLo (by omega) (by omega) (by decide) dX8_pageInBrief_23 rfl ?_
    have hl9 := hlo9 kk
    refine z_if_eq (tgt := 29) 27 K dX8_pageInBrief_24 rfl (by decide) (by omega) (fun c_24 => ?_) (fun c_24 => ?_)
    · skip
      refine z_aload_n 30 K dX8_pageInBrief_29 rfl rfl 1 rfl ?_
      refine z_get 33 K hin_X8_pageInBrief_X8 0 (by decide) hMa rfl 1 (by decide) (by decide +kernel : Cond.fieldLink RX8 19 "BriefBuilder" "view" "LBriefBuilder$View;" ∈ wsX8_pageInBrief) (fun _ h9 => h9) rfl dX8_pageInBrief_30 rfl ?_
      refine z_get 36 K hin_X8_pageInBrief_X7 12 (by decide) hVw rfl 2 (by decide) (by decide +kernel : Cond.fieldLink RX8 223 "BriefBuilder$View" "firstPages" "[I" ∈ wsX8_pageInBrief) (fun _ h9 => h9) rfl dX8_pageInBrief_33 rfl ?_
      refine z_iload_n 37 K dX8_pageInBrief_36 rfl rfl 0 rfl ?_
      refine z_iald (f := vf) 38 K 15 (by decide) hVf (by omega) (by omega) (by decide) dX8_pageInBrief_37 rfl ?_
      refine z_aload_n 39 K dX8_pageInBrief_38 rfl rfl 1 rfl ?_
      refine z_get 42 K hin_X8_pageInBrief_X8 0 (by decide) hMa rfl 0 (by decide) (by decide +kernel : Cond.fieldLink RX8 12 "BriefBuilder" "state" "LBriefBuilder$State;" ∈ wsX8_pageInBrief) (fun _ h9 => h9) rfl dX8_pageInBrief_39 rfl ?_
      refine z_get 45 K hin_X8_pageInBrief_X4 1 (by decide) hSt rfl 1 (by decide) (by decide +kernel : Cond.fieldLink RX8 111 "BriefBuilder$State" "citations" "LBriefBuilder$Citations;" ∈ wsX8_pageInBrief) (fun _ h9 => h9) rfl dX8_pageInBrief_42 rfl ?_
      refine z_get 48 K hin_X8_pageInBrief_X0 5 (by decide) hCi rfl 2 (by decide) (by decide +kernel : Cond.fieldLink RX8 167 "BriefBuilder$Citations" "pages" "[I" ∈ wsX8_pageInBrief) (fun _ h9 => h9) rfl dX8_pageInBrief_45 rfl ?_
      refine z_iload_n 49 K dX8_pageInBrief_48 rfl rfl 2 rfl ?_
      refine z_iald (f := cp) 50 K 8 (by decide) hCp (by omega) (by omega) (by decide) dX8_pageInBrief_49 rfl ?_
      refine z_iadd 51 K dX8_pageInBrief_50 rfl ?_
      refine z_top (cp kk + vf (lt kk)) (by omega) ?_
      refine z_iconst 52 K dX8_pageInBrief_51 rfl ?_
      refine z_isub 53 K dX8_pageInBrief_52 rfl ?_
      exact z_iret K rfl dX8_pageInBrief_53 ⟨rfl, by rw [if_neg (show ¬ (lt kk = -1 ∨ lo kk ≠ 0) by omega)]; omega⟩
    · skip
      refine z_iconst 28 K dX8_pageInBrief_27 rfl ?_
      exact z_iret K rfl dX8_pageInBrief_28 ⟨rfl, by rw [if_pos (show lt kk = -1 ∨ lo kk ≠ 0 by omega)]⟩
set_option maxRecDepth 20000 in
theorem hin_X8_isStale_X0 : ∀ w ∈ wsX00, w ∈ wsX8_isStale := by decide +kernel
set_option maxRecDepth 20000 in
theorem hin_X8_isStale_X3 : ∀ w ∈ wsX30, w ∈ wsX8_isStale := by decide +kernel
set_option maxRecDepth 20000 in
theorem hin_X8_isStale_X4 : ∀ w ∈ wsX40, w ∈ wsX8_isStale := by decide +kernel
set_option maxRecDepth 20000 in
theorem hin_X8_isStale_X7 : ∀ w ∈ wsX70, w ∈ wsX8_isStale := by decide +kernel
set_option maxRecDepth 20000 in
theorem hin_X8_isStale_X8 : ∀ w ∈ wsX80, w ∈ wsX8_isStale := by decide +kernel
set_option maxHeartbeats 4000000 in
set_option maxRecDepth 100000 in
theorem m_X8_isStale (l : Launch) (g : zG) (C : Nat → va_E) (a : Int) (q : Nat) (cc : Int → Int) (cp : Int → Int) (pn : Int → Int) (pm : Int → Int) (nb : Int) (lt : Int → Int) (lo : Int → Int) (np : Int → Int) (hMa : C 0 = .inr (8, [.ref (aD g 1), .ref (aD g 12), .ref (aD g 18), .ref (aD g 21), .ref (aD g 23), .ref (aD g 27)])) (hSt : C 1 = .inr (4, [.ref (aD g 2), .ref (aD g 5), .ref (aD g 9)])) (hCi : C 5 = .inr (0, [.ref (aD g 6), .ref (aD g 7), .ref (aD g 8)])) (hCc : C 6 = eI g 12 cc) (hCp : C 8 = eI g 72 cp) (hPr : C 9 = .inr (3, [.ref (aD g 10), .ref (aD g 11)])) (hPc : C 10 = eI g 12 pn) (hPm : C 11 = eI g 72 pm) (hVw : C 12 = .inr (7, [.ref (aD g 13), .ref (aD g 14), .ref (aD g 15), .ref (aD g 16), .ref (aD g 17), .int (iZ nb)])) (hLe : C 16 = eI g 72 lt) (hLo : C 17 = eZ g 72 lo) (hz_hNp : q < zN) (hNp : C q = eI g 30 np) (hpa : 0 ≤ a ∧ a < 12) (hcc : ∀ a, 0 ≤ a → a < 12 → 0 ≤ cc a ∧ cc a ≤ 6) (hlt9 : ∀ j, -1 ≤ lt j ∧ lt j ≤ 29) (hlo9 : ∀ j, lo j = 0 ∨ lo j = 1) (hcp9 : ∀ a b, 0 ≤ a → a < 12 → 0 ≤ b → b < cc a → 1 ≤ cp (6 * a + b) ∧ cp (6 * a + b) ≤ 60) (hnp : ∀ j, 0 ≤ j → j ≤ 29 → -1 ≤ np j ∧ np j ≤ 30) (hpn : ∀ j, -2147483648 ≤ pn j ∧ pn j < 2147483648) (hpm : ∀ j, -2147483648 ≤ pm j ∧ pm j < 2147483648) : Met l yX8_isStale wsX8_isStale ({ frames := 1, cells := 0, slots := 0, locals := 22 } : Room) (zPre g C [.ref (aD g 0), .int (iZ a), .ref (aD g q)]) (zQi g (fun z C' => C' = C ∧ z = b2i (iSt np lt lo cc cp pn pm a))) 0 0 (zA g) := by
  refine z_enter RX8 rfl (by decide) rfl (Nat.le_of_ble_eq_true rfl) ?_
  intro p e s m args below meth c K harg
  refine z_sub (lv' := [(0, .ref (aD g 0)), (1, .int (iZ a)), (2, .ref (aD g q))]) [0, 1, 2] rfl ?_
  have hca := hcc a hpa.1 hpa.2
  refine z_aload_n 1 K dX8_isStale_0 rfl rfl 0 rfl ?_
  refine z_get 4 K hin_X8_isStale_X8 0 (by decide) hMa rfl 0 (by decide) (by decide +kernel : Cond.fieldLink RX8 12 "BriefBuilder" "state" "LBriefBuilder$State;" ∈ wsX8_isStale) (fun _ h9 => h9) rfl dX8_isStale_1 rfl ?_
  refine z_get 7 K hin_X8_isStale_X4 1 (by decide) hSt rfl 1 (by decide) (by decide +kernel : Cond.fieldLink RX8 111 "BriefBuilder$State" "citations" "LBriefBuilder$Citations;" ∈ wsX8_isStale) (fun _ h9 => h9) rfl dX8_isStale_4 rfl ?_
  refine z_get 10 K hin_X8_isStale_X0 5 (by decide) hCi rfl 0 (by decide) (by decide +kernel : Cond.fieldLink RX8 131 "BriefBuilder$Citations" "counts" "[I" ∈ wsX8_isStale) (fun _ h9 => h9) rfl dX8_isStale_7 rfl ?_
  refine z_iload_n 11 K dX8_isStale_10 rfl rfl 1 rfl ?_
  refine z_iald (f := cc) 12 K 6 (by decide) hCc (by omega) (by omega) (by decide) dX8_isStale_11 rfl ?_
  refine z_istore_n (lv' := [(3, .int (iZ (cc a))), (0, .ref (aD g 0)), (1, .int (iZ a)), (2, .ref (aD g q))]) 13 K dX8_isStale_12 rfl rfl (by decide) rfl ?_
  refine z_aload_n 14 K dX8_isStale_13 rfl rfl 1 rfl ?_
  refine z_get 17 K hin_X8_isStale_X8 0 (by decide) hMa rfl 0 (by decide) (by decide +kernel : Cond.fieldLink RX8 12 "BriefBuilder" "state" "LBriefBuilder$State;" ∈ wsX8_isStale) (fun _ h9 => h9) rfl dX8_isStale_14 rfl ?_
  refine z_get 20 K hin_X8_isStale_X4 1 (by decide) hSt rfl 2 (by decide) (by decide +kernel : Cond.fieldLink RX8 151 "BriefBuilder$State" "prints" "LBriefBuilder$Prints;" ∈ wsX8_isStale) (fun _ h9 => h9) rfl dX8_isStale_17 rfl ?_
  refine z_get 23 K hin_X8_isStale_X3 9 (by decide) hPr rfl 0 (by decide) (by decide +kernel : Cond.fieldLink RX8 155 "BriefBuilder$Prints" "counts" "[I" ∈ wsX8_isStale) (fun _ h9 => h9) rfl dX8_isStale_20 rfl ?_
  refine z_iload_n 24 K dX8_isStale_23 rfl rfl 2 rfl ?_
  refine z_iald (f := pn) 25 K 10 (by decide) hPc (by omega) (by omega) (by decide) dX8_isStale_24 rfl ?_
  have hr_24 := hpn a
  refine z_iload_n 26 K dX8_isStale_25 rfl rfl 0 rfl ?_
  refine z_icmp_eq (tgt := 31) 29 K dX8_isStale_26 rfl (by decide) (by omega) (by omega) (fun c_26 => ?_) (fun c_26 => ?_)
  · skip
    refine z_iconst 32 K dX8_isStale_31 rfl ?_
    refine z_istore (lv' := [(4, .int (iZ 0)), (3, .int (iZ (cc a))), (0, .ref (aD g 0)), (1, .int (iZ a)), (2, .ref (aD g q))]) 34 K dX8_isStale_32 rfl (by decide) rfl ?_
    have loop_34 : ∀ (n9 : Nat) (b : Int), (0 ≤ b ∧ b ≤ cc a) → (∀ j, 0 ≤ j → j < b → iMis np lt lo cp pm (6 * a + j) = false) → (cc a - b < (n9 : Int)) → Z p l e (({ frames := 1, cells := 0, slots := 0, locals := 22 } : Room)) s m args below meth c (MQ below (zQi g (fun z C' => C' = C ∧ z = b2i (iSt np lt lo cc cp pn pm a))) args s 0 0 (zA g)) g 9 0 0 (C) [(0, .ref (aD g 0)), (1, .int (iZ a)), (2, .ref (aD g q)), (3, .int (iZ (cc a))), (4, .int (iZ b))] 34 [] := by
      intro n9
      induction n9 with
      | zero =>
        intro b hkb hno hm9
        exact absurd hm9 (by omega)
      | succ n9 ih9 =>
        intro b hkb hno hm_34
        have ih_34 := ih9
        clear ih9
        refine z_iload 36 K dX8_isStale_34 rfl 4 rfl ?_
        refine z_iload_n 37 K dX8_isStale_36 rfl rfl 3 rfl ?_
        refine z_icmp_ge (tgt := 146) 40 K dX8_isStale_37 rfl (by decide) (by omega) (by omega) (fun c_37 => ?_) (fun c_37 => ?_)
        · skip
          refine z_iconst 147 K dX8_isStale_146 rfl ?_
          have ha9 : zany (fun b => iMis np lt lo cp pm (6 * a + b)) (cc a) = false := zany_f.mpr (fun j h0 h1 => hno j h0 (by omega))
          exact z_zret K rfl (by decide) dX8_isStale_147 ⟨rfl, by unfold iSt; rw [ha9, Bool.or_false, decide_eq_false (show ¬ (pn a ≠ cc a) by omega)]; rfl⟩
        · skip
          refine z_iload_n 41 K dX8_isStale_40 rfl rfl 1 rfl ?_
          refine z_iload 43 K dX8_isStale_41 rfl 4 rfl ?_
          refine z_vSi (As := [.int (iZ a), .int (iZ b)]) (rest := []) 46 K (m_X8_cellOf l g _ a b ) (va_cwS 2 K.1.2.2.2.2 gX8_isStale_X8_cellOf rfl rfl rfl (by decide +kernel) ⟨Nat.le_of_ble_eq_true rfl, Nat.le_of_ble_eq_true rfl⟩) rfl (Nat.le_of_ble_eq_true rfl) dX8_isStale_43 rfl ⟨Nat.le_of_ble_eq_true rfl, Nat.le_of_ble_eq_true rfl⟩ rfl (fun z_1 C_2 hp_43 => ?_)
          refine z_C hp_43.1 ?_
          refine z_top (6 * a + b) hp_43.2 ?_
          refine z_istore (lv' := [(5, .int (iZ (6 * a + b))), (0, .ref (aD g 0)), (1, .int (iZ a)), (2, .ref (aD g q)), (3, .int (iZ (cc a))), (4, .int (iZ b))]) 48 K dX8_isStale_46 rfl (by decide) rfl ?_
          refine z_aload_n 49 K dX8_isStale_48 rfl rfl 1 rfl ?_
          refine z_get 52 K hin_X8_isStale_X8 0 (by decide) hMa rfl 1 (by decide) (by decide +kernel : Cond.fieldLink RX8 19 "BriefBuilder" "view" "LBriefBuilder$View;" ∈ wsX8_isStale) (fun _ h9 => h9) rfl dX8_isStale_49 rfl ?_
          refine z_get 55 K hin_X8_isStale_X7 12 (by decide) hVw rfl 3 (by decide) (by decide +kernel : Cond.fieldLink RX8 164 "BriefBuilder$View" "letters" "[I" ∈ wsX8_isStale) (fun _ h9 => h9) rfl dX8_isStale_52 rfl ?_
          refine z_iload 57 K dX8_isStale_55 rfl 0 rfl ?_
          refine z_iald (f := lt) 58 K 16 (by decide) hLe (by omega) (by omega) (by decide) dX8_isStale_57 rfl ?_
          have hl8 := hlt9 (6 * a + b)
          refine z_istore (lv' := [(6, .int (iZ (lt (6 * a + b)))), (5, .int (iZ (6 * a + b))), (0, .ref (aD g 0)), (1, .int (iZ a)), (2, .ref (aD g q)), (3, .int (iZ (cc a))), (4, .int (iZ b))]) 60 K dX8_isStale_58 rfl (by decide) rfl ?_
          refine z_iload 62 K dX8_isStale_60 rfl 0 rfl ?_
          refine z_iconst 63 K dX8_isStale_62 rfl ?_
          have join_74_j_3 : ∀ (nl : Int), (nl = iNl np lt (6 * a + b)) → (-1 ≤ nl ∧ nl ≤ 30) → Z p l e (({ frames := 1, cells := 0, slots := 0, locals := 22 } : Room)) s m args below meth c (MQ below (zQi g (fun z C' => C' = C ∧ z = b2i (iSt np lt lo cc cp pn pm a))) args s 0 0 (zA g)) g 9 0 0 (C) [(6, .int (iZ (lt (6 * a + b)))), (5, .int (iZ (6 * a + b))), (0, .ref (aD g 0)), (1, .int (iZ a)), (2, .ref (aD g q)), (3, .int (iZ (cc a))), (4, .int (iZ b))] 74 [.int (iZ nl)] := by
            intro nl  hnl hnr
            refine z_istore (lv' := [(7, .int (iZ nl)), (6, .int (iZ (lt (6 * a + b)))), (5, .int (iZ (6 * a + b))), (0, .ref (aD g 0)), (1, .int (iZ a)), (2, .ref (aD g q)), (3, .int (iZ (cc a))), (4, .int (iZ b))]) 76 K dX8_isStale_74 rfl (by decide) rfl ?_
            refine z_iload 78 K dX8_isStale_76 rfl 0 rfl ?_
            refine z_iconst 79 K dX8_isStale_78 rfl ?_
            have join_100_j_4 : ∀ (nx : Int), (nx = iNx np lt lo (6 * a + b)) → (nx = 0 ∨ nx = 1) → Z p l e (({ frames := 1, cells := 0, slots := 0, locals := 22 } : Room)) s m args below meth c (MQ below (zQi g (fun z C' => C' = C ∧ z = b2i (iSt np lt lo cc cp pn pm a))) args s 0 0 (zA g)) g 9 0 0 (C) [(7, .int (iZ nl)), (6, .int (iZ (lt (6 * a + b)))), (5, .int (iZ (6 * a + b))), (0, .ref (aD g 0)), (1, .int (iZ a)), (2, .ref (aD g q)), (3, .int (iZ (cc a))), (4, .int (iZ b))] 100 [.int (iZ nx)] := by
              intro nx  hnx hxr
              refine z_istore (lv' := [(8, .int (iZ nx)), (7, .int (iZ nl)), (6, .int (iZ (lt (6 * a + b)))), (5, .int (iZ (6 * a + b))), (0, .ref (aD g 0)), (1, .int (iZ a)), (2, .ref (aD g q)), (3, .int (iZ (cc a))), (4, .int (iZ b))]) 102 K dX8_isStale_100 rfl (by decide) rfl ?_
              refine z_iload 104 K dX8_isStale_102 rfl 1 rfl ?_
              refine z_aload_n 105 K dX8_isStale_104 rfl rfl 4 rfl ?_
              refine z_get 108 K hin_X8_isStale_X8 0 (by decide) hMa rfl 0 (by decide) (by decide +kernel : Cond.fieldLink RX8 12 "BriefBuilder" "state" "LBriefBuilder$State;" ∈ wsX8_isStale) (fun _ h9 => h9) rfl dX8_isStale_105 rfl ?_
              refine z_get 111 K hin_X8_isStale_X4 1 (by decide) hSt rfl 1 (by decide) (by decide +kernel : Cond.fieldLink RX8 111 "BriefBuilder$State" "citations" "LBriefBuilder$Citations;" ∈ wsX8_isStale) (fun _ h9 => h9) rfl dX8_isStale_108 rfl ?_
              refine z_get 114 K hin_X8_isStale_X0 5 (by decide) hCi rfl 2 (by decide) (by decide +kernel : Cond.fieldLink RX8 167 "BriefBuilder$Citations" "pages" "[I" ∈ wsX8_isStale) (fun _ h9 => h9) rfl dX8_isStale_111 rfl ?_
              refine z_iload 116 K dX8_isStale_114 rfl 3 rfl ?_
              refine z_iald (f := cp) 117 K 8 (by decide) hCp (by omega) (by omega) (by decide) dX8_isStale_116 rfl ?_
              have hp9 := hcp9 a b (by omega) (by omega) (by omega) (by omega)
              refine z_iload 119 K dX8_isStale_117 rfl 0 rfl ?_
              refine z_vSi (As := [.int (iZ nl), .int (iZ (cp (6 * a + b))), .int (iZ nx)]) (rest := []) 122 K (m_X8_markOf l g _ nl (cp (6 * a + b)) nx (by omega)) (va_cwS 3 K.1.2.2.2.2 gX8_isStale_X8_markOf rfl rfl rfl (by decide +kernel) ⟨Nat.le_of_ble_eq_true rfl, Nat.le_of_ble_eq_true rfl⟩) rfl (Nat.le_of_ble_eq_true rfl) dX8_isStale_119 rfl ⟨Nat.le_of_ble_eq_true rfl, Nat.le_of_ble_eq_true rfl⟩ rfl (fun z_5 C_6 hp_119 => ?_)
              refine z_C hp_119.1 ?_
              refine z_top (122 * nl + 2 * (cp (6 * a + b)) + nx + 122) hp_119.2 ?_
              refine z_aload_n 123 K dX8_isStale_122 rfl rfl 4 rfl ?_
              refine z_get 126 K hin_X8_isStale_X8 0 (by decide) hMa rfl 0 (by decide) (by decide +kernel : Cond.fieldLink RX8 12 "BriefBuilder" "state" "LBriefBuilder$State;" ∈ wsX8_isStale) (fun _ h9 => h9) rfl dX8_isStale_123 rfl ?_
              refine z_get 129 K hin_X8_isStale_X4 1 (by decide) hSt rfl 2 (by decide) (by decide +kernel : Cond.fieldLink RX8 151 "BriefBuilder$State" "prints" "LBriefBuilder$Prints;" ∈ wsX8_isStale) (fun _ h9 => h9) rfl dX8_isStale_126 rfl ?_
              refine z_get 132 K hin_X8_isStale_X3 9 (by decide) hPr rfl 1 (by decide) (by decide +kernel : Cond.fieldLink RX8 161 "BriefBuilder$Prints" "marks" "[I" ∈ wsX8_isStale) (fun _ h9 => h9) rfl dX8_isStale_129 rfl ?_
              refine z_iload 134 K dX8_isStale_132 rfl 3 rfl ?_
              refine z_iald (f := pm) 135 K 11 (by decide) hPm (by omega) (by omega) (by decide) dX8_isStale_134 rfl ?_
              have hr_134 := hpm (6 * a + b)
              refine z_icmp_eq (tgt := 140) 138 K dX8_isStale_135 rfl (by decide) (by omega) (by omega) (fun c_135 => ?_) (fun c_135 => ?_)
              · skip
                refine z_iinc (lv' := [(4, .int (iZ (b + 1))), (8, .int (iZ nx)), (7, .int (iZ nl)), (6, .int (iZ (lt (6 * a + b)))), (5, .int (iZ (6 * a + b))), (0, .ref (aD g 0)), (1, .int (iZ a)), (2, .ref (aD g q)), (3, .int (iZ (cc a)))]) 143 K dX8_isStale_140 rfl (b + 1) rfl 8 rfl (by decide) rfl ?_
                refine z_goto (tgt := 34) K dX8_isStale_143 (by decide) ?_
                refine z_sub [5, 6, 7, 8, 0] rfl ?_
                exact ih_34 (b + 1) (by omega) (lt_step hno (decide_eq_false (by rw [← hnl, ← hnx]; omega))) (by omega)
              · skip
                refine z_iconst 139 K dX8_isStale_138 rfl ?_
                have hm9 : iMis np lt lo cp pm (6 * a + b) = true := decide_eq_true (by rw [← hnl, ← hnx]; omega)
                have ha9 : zany (fun b => iMis np lt lo cp pm (6 * a + b)) (cc a) = true := zany_iff.mpr ⟨b, by omega, by omega, hm9⟩
                exact z_zret K rfl (by decide) dX8_isStale_139 ⟨rfl, by unfold iSt; rw [ha9, Bool.or_true]; rfl⟩
            refine z_icmp_eq (tgt := 95) 82 K dX8_isStale_79 rfl (by decide) (by omega) (by decide) (fun c_79 => ?_) (fun c_79 => ?_)
            · skip
              refine z_iconst 96 K dX8_isStale_95 rfl ?_
              refine z_goto (tgt := 100) K dX8_isStale_96 (by decide) ?_
              exact join_100_j_4 1 (by unfold iNx; rw [← hnl]; first | (have q9 : nl = -1 ∨ lo (6 * a + b) ≠ 0 := (by omega); exact (b2i_1 q9).symm) | (have q9 : ¬ (nl = -1 ∨ lo (6 * a + b) ≠ 0) := (by omega); exact (b2i_0 q9).symm) | (have q8 : nl ≠ -1 := (by omega); rcases hl9 with q9 | q9 <;> rw [q9] <;> simp [q8, b2i])) (by omega)
            · skip
              refine z_aload_n 83 K dX8_isStale_82 rfl rfl 3 rfl ?_
              refine z_get 86 K hin_X8_isStale_X8 0 (by decide) hMa rfl 1 (by decide) (by decide +kernel : Cond.fieldLink RX8 19 "BriefBuilder" "view" "LBriefBuilder$View;" ∈ wsX8_isStale) (fun _ h9 => h9) rfl dX8_isStale_83 rfl ?_
              refine z_get 89 K hin_X8_isStale_X7 12 (by decide) hVw rfl 4 (by decide) (by decide +kernel : Cond.fieldLink RX8 139 "BriefBuilder$View" "lost" "[Z" ∈ wsX8_isStale) (fun _ h9 => h9) rfl dX8_isStale_86 rfl ?_
              refine z_iload 91 K dX8_isStale_89 rfl 2 rfl ?_
              refine z_zald (f := lo) 92 K 17 (by decide) hLo (by omega) (by omega) (by decide) dX8_isStale_91 rfl ?_
              have hl9 := hlo9 (6 * a + b)
              refine z_bool01 95 96 99 100 K (by omega) dX8_isStale_92 dX8_isStale_95 dX8_isStale_96 dX8_isStale_99 rfl rfl (by decide) (by decide) rfl ?_
              exact join_100_j_4 (lo (6 * a + b)) (by unfold iNx; rw [← hnl]; first | (have q9 : nl = -1 ∨ lo (6 * a + b) ≠ 0 := (by omega); exact (b2i_1 q9).symm) | (have q9 : ¬ (nl = -1 ∨ lo (6 * a + b) ≠ 0) := (by omega); exact (b2i_0 q9).symm) | (have q8 : nl ≠ -1 := (by omega); rcases hl9 with q9 | q9 <;> rw [q9] <;> simp [q8, b2i])) (by omega)
          refine z_icmp_ne (tgt := 70) 66 K dX8_isStale_63 rfl (by decide) (by omega) (by decide) (fun c_63 => ?_) (fun c_63 => ?_)
          · skip
            refine z_aload_n 71 K dX8_isStale_70 rfl rfl 4 rfl ?_
            refine z_iload 73 K dX8_isStale_71 rfl 0 rfl ?_
            refine z_iald (f := np) 74 K q hz_hNp hNp (by omega) (by omega) (by decide) dX8_isStale_73 rfl ?_
            have hn8 := hnp (lt (6 * a + b)) (by omega) (by omega)
            exact join_74_j_3 (np (lt (6 * a + b))) (by unfold iNl; first | (have q9 : lt (6 * a + b) = -1 := (by omega); rw [if_pos q9]) | (have q9 : ¬ lt (6 * a + b) = -1 := (by omega); rw [if_neg q9])) (by omega)
          · skip
            refine z_iconst 67 K dX8_isStale_66 rfl ?_
            refine z_goto (tgt := 74) K dX8_isStale_67 (by decide) ?_
            exact join_74_j_3 (-1) (by unfold iNl; first | (have q9 : lt (6 * a + b) = -1 := (by omega); rw [if_pos q9]) | (have q9 : ¬ lt (6 * a + b) = -1 := (by omega); rw [if_neg q9])) (by omega)
    refine z_sub [2, 3, 4, 1, 0] rfl ?_
    exact loop_34 (Int.toNat (cc a - 0) + 1) 0 (by omega) (fun j h0 h1 => absurd h1 (by omega)) (by omega)
  · skip
    refine z_iconst 30 K dX8_isStale_29 rfl ?_
    exact z_zret K rfl (by decide) dX8_isStale_30 ⟨rfl, by unfold iSt; rw [decide_eq_true c_26, Bool.true_or]; rfl⟩
set_option maxHeartbeats 4000000 in
set_option maxRecDepth 100000 in
theorem m_X8_staleWith (l : Launch) (g : zG) (C : Nat → va_E) (q : Nat) (cc : Int → Int) (cp : Int → Int) (pn : Int → Int) (pm : Int → Int) (nb : Int) (lt : Int → Int) (lo : Int → Int) (np : Int → Int) (hMa : C 0 = .inr (8, [.ref (aD g 1), .ref (aD g 12), .ref (aD g 18), .ref (aD g 21), .ref (aD g 23), .ref (aD g 27)])) (hSt : C 1 = .inr (4, [.ref (aD g 2), .ref (aD g 5), .ref (aD g 9)])) (hCi : C 5 = .inr (0, [.ref (aD g 6), .ref (aD g 7), .ref (aD g 8)])) (hCc : C 6 = eI g 12 cc) (hCp : C 8 = eI g 72 cp) (hPr : C 9 = .inr (3, [.ref (aD g 10), .ref (aD g 11)])) (hPc : C 10 = eI g 12 pn) (hPm : C 11 = eI g 72 pm) (hVw : C 12 = .inr (7, [.ref (aD g 13), .ref (aD g 14), .ref (aD g 15), .ref (aD g 16), .ref (aD g 17), .int (iZ nb)])) (hLe : C 16 = eI g 72 lt) (hLo : C 17 = eZ g 72 lo) (hz_hNp : q < zN) (hNp : C q = eI g 30 np) (hcc : ∀ a, 0 ≤ a → a < 12 → 0 ≤ cc a ∧ cc a ≤ 6) (hlt9 : ∀ j, -1 ≤ lt j ∧ lt j ≤ 29) (hlo9 : ∀ j, lo j = 0 ∨ lo j = 1) (hcp9 : ∀ a b, 0 ≤ a → a < 12 → 0 ≤ b → b < cc a → 1 ≤ cp (6 * a + b) ∧ cp (6 * a + b) ≤ 60) (hnp : ∀ j, 0 ≤ j → j ≤ 29 → -1 ≤ np j ∧ np j ≤ 30) (hpn : ∀ j, -2147483648 ≤ pn j ∧ pn j < 2147483648) (hpm : ∀ j, -2147483648 ≤ pm j ∧ pm j < 2147483648) : Met l yX8_staleWith wsX8_staleWith ({ frames := 2, cells := 0, slots := 0, locals := 50 } : Room) (zPre g C [.ref (aD g 0), .ref (aD g q)]) (zQi g (fun z C' => C' = C ∧ z = iSn np lt lo cc cp pn pm)) 0 0 (zA g) := by
  refine z_enter RX8 rfl (by decide) rfl (Nat.le_of_ble_eq_true rfl) ?_
  intro p e s m args below meth c K harg
  refine z_sub (lv' := [(0, .ref (aD g 0)), (1, .ref (aD g q))]) [0, 1] rfl ?_
  refine z_iconst 1 K dX8_staleWith_0 rfl ?_
  refine z_istore_n (lv' := [(2, .int (iZ 0)), (0, .ref (aD g 0)), (1, .ref (aD g q))]) 2 K dX8_staleWith_1 rfl rfl (by decide) rfl ?_
  refine z_iconst 3 K dX8_staleWith_2 rfl ?_
  refine z_istore_n (lv' := [(3, .int (iZ 0)), (2, .int (iZ 0)), (0, .ref (aD g 0)), (1, .ref (aD g q))]) 4 K dX8_staleWith_3 rfl rfl (by decide) rfl ?_
  have loop_4 : ∀ (n9 : Nat) (n a : Int), (0 ≤ a ∧ a ≤ 12) → (n = zsum (fun a => b2i (iSt np lt lo cc cp pn pm a)) a) → (12 - a < (n9 : Int)) → Z p l e (({ frames := 2, cells := 0, slots := 0, locals := 50 } : Room)) s m args below meth c (MQ below (zQi g (fun z C' => C' = C ∧ z = iSn np lt lo cc cp pn pm)) args s 0 0 (zA g)) g 4 0 0 (C) [(0, .ref (aD g 0)), (1, .ref (aD g q)), (2, .int (iZ n)), (3, .int (iZ a))] 4 [] := by
    intro n9
    induction n9 with
    | zero =>
      intro n a hka hn1 hm9
      exact absurd hm9 (by omega)
    | succ n9 ih9 =>
      intro n a hka hn1 hm_4
      have ih_4 := ih9
      clear ih9
      refine z_iload_n 5 K dX8_staleWith_4 rfl rfl 3 rfl ?_
      refine z_bipush 7 K dX8_staleWith_5 rfl rfl ?_
      refine z_icmp_ge (tgt := 28) 10 K dX8_staleWith_7 rfl (by decide) (by omega) (by decide) (fun c_7 => ?_) (fun c_7 => ?_)
      · skip
        refine z_iload_n 29 K dX8_staleWith_28 rfl rfl 2 rfl ?_
        exact z_iret K rfl dX8_staleWith_29 ⟨rfl, by rw [hn1, show a = 12 by omega]; rfl⟩
      · skip
        refine z_aload_n 11 K dX8_staleWith_10 rfl rfl 0 rfl ?_
        refine z_iload_n 12 K dX8_staleWith_11 rfl rfl 3 rfl ?_
        refine z_aload_n 13 K dX8_staleWith_12 rfl rfl 1 rfl ?_
        refine z_vVi (As := [.int (iZ a), .ref (aD g q)]) (rest := []) 16 K 0 (by decide) hMa rfl rfl (m_X8_isStale l g _ a q cc cp pn pm nb lt lo np hMa hSt hCi hCc hCp hPr hPc hPm hVw hLe hLo hz_hNp hNp (by omega) hcc hlt9 hlo9 hcp9 hnp hpn hpm) (cwV 2 K.1.2.2.2.2 gX8_staleWith_X8_isStale rfl rfl rfl (by decide +kernel) ⟨Nat.le_of_ble_eq_true rfl, Nat.le_of_ble_eq_true rfl⟩) rfl (Nat.le_of_ble_eq_true rfl) dX8_staleWith_13 rfl ⟨Nat.le_of_ble_eq_true rfl, Nat.le_of_ble_eq_true rfl⟩ rfl (fun z_1 C_2 hp_13 => ?_)
        refine z_C hp_13.1 ?_
        refine z_top (b2i (iSt np lt lo cc cp pn pm a)) hp_13.2 ?_
        refine z_if_eq (tgt := 22) 19 K dX8_staleWith_16 rfl (by decide) (b2i_ir _) (fun c_16 => ?_) (fun c_16 => ?_)
        · have d_16 := b2i_eq0.mp c_16
          refine z_iinc (lv' := [(3, .int (iZ (a + 1))), (0, .ref (aD g 0)), (1, .ref (aD g q)), (2, .int (iZ n))]) 25 K dX8_staleWith_22 rfl (a + 1) rfl 3 rfl (by decide) rfl ?_
          refine z_goto (tgt := 4) K dX8_staleWith_25 (by decide) ?_
          refine z_sub [1, 2, 3, 0] rfl ?_
          exact ih_4 n (a + 1) (by omega) (by rw [zsum_1 _ (by omega)]; first | (have q9 : iSt np lt lo cc cp pn pm a = true := (by assumption); rw [q9, b2i_t]; omega) | (have q9 : iSt np lt lo cc cp pn pm a = false := (by assumption); rw [q9, b2i_f]; omega)) (by omega)
        · have d_16 := b2i_ne0.mp c_16
          refine z_iinc (lv' := [(2, .int (iZ (n + 1))), (0, .ref (aD g 0)), (1, .ref (aD g q)), (3, .int (iZ a))]) 22 K dX8_staleWith_19 rfl (n + 1) rfl 2 rfl (by decide) rfl ?_
          refine z_iinc (lv' := [(3, .int (iZ (a + 1))), (2, .int (iZ (n + 1))), (0, .ref (aD g 0)), (1, .ref (aD g q))]) 25 K dX8_staleWith_22 rfl (a + 1) rfl 3 rfl (by decide) rfl ?_
          refine z_goto (tgt := 4) K dX8_staleWith_25 (by decide) ?_
          refine z_sub [2, 3, 1, 0] rfl ?_
          exact ih_4 (n + 1) (a + 1) (by omega) (by rw [zsum_1 _ (by omega)]; first | (have q9 : iSt np lt lo cc cp pn pm a = true := (by assumption); rw [q9, b2i_t]; omega) | (have q9 : iSt np lt lo cc cp pn pm a = false := (by assumption); rw [q9, b2i_f]; omega)) (by omega)
  refine z_sub [2, 3, 1, 0] rfl ?_
  exact loop_4 (Int.toNat (12 - 0) + 1) 0 0 (by omega) rfl (by omega)

end ZIN
