/-! the class: its checks -/
section ZCK
set_option maxRecDepth 20000 in
theorem at_IO_2 : ∀ w ∈ (vx_atS RX8 103 "java/lang/IndexOutOfBoundsException" ["java/lang/RuntimeException", "java/lang/Exception"]).filter (fun w => !goodWord w), w ∈ zBad := by decide +kernel
set_option maxRecDepth 20000 in
theorem at_IO_g : ∀ w ∈ Cond.classLink RX8 99 "java/lang/IndexOutOfBoundsException" :: Cond.initialized "java/lang/IndexOutOfBoundsException" :: vx_atS RX8 103 "java/lang/IndexOutOfBoundsException" ["java/lang/RuntimeException", "java/lang/Exception"], vx_ot w = true := by decide +kernel
set_option maxRecDepth 20000 in
theorem at_IS_2 : ∀ w ∈ (vx_atS RX8 110 "java/lang/IllegalStateException" ["java/lang/RuntimeException", "java/lang/Exception"]).filter (fun w => !goodWord w), w ∈ zBad := by decide +kernel
set_option maxRecDepth 20000 in
theorem at_IS_g : ∀ w ∈ Cond.classLink RX8 106 "java/lang/IllegalStateException" :: Cond.initialized "java/lang/IllegalStateException" :: vx_atS RX8 110 "java/lang/IllegalStateException" ["java/lang/RuntimeException", "java/lang/Exception"], vx_ot w = true := by decide +kernel
set_option maxRecDepth 20000 in
theorem at_IA_2 : ∀ w ∈ (vx_atS RX8 124 "java/lang/IllegalArgumentException" ["java/lang/RuntimeException", "java/lang/Exception"]).filter (fun w => !goodWord w), w ∈ zBad := by decide +kernel
set_option maxRecDepth 20000 in
theorem at_IA_g : ∀ w ∈ Cond.classLink RX8 120 "java/lang/IllegalArgumentException" :: Cond.initialized "java/lang/IllegalArgumentException" :: vx_atS RX8 124 "java/lang/IllegalArgumentException" ["java/lang/RuntimeException", "java/lang/Exception"], vx_ot w = true := by decide +kernel
set_option maxRecDepth 20000 in
theorem hin_X8_checkPlace_X1 : ∀ w ∈ wsX10, w ∈ wsX8_checkPlace := by decide +kernel
set_option maxRecDepth 20000 in
theorem hin_X8_checkPlace_X4 : ∀ w ∈ wsX40, w ∈ wsX8_checkPlace := by decide +kernel
set_option maxRecDepth 20000 in
theorem hin_X8_checkPlace_X8 : ∀ w ∈ wsX80, w ∈ wsX8_checkPlace := by decide +kernel
set_option maxRecDepth 20000 in
theorem hat1_X8_checkPlace_18 : ∀ w ∈ (vx_atS RX8 103 "java/lang/IndexOutOfBoundsException" ["java/lang/RuntimeException", "java/lang/Exception"]).filter goodWord, w ∈ wsX8_checkPlace := by decide +kernel
set_option maxHeartbeats 4000000 in
set_option maxRecDepth 100000 in
theorem m_X8_checkPlace (l : Launch) (g : zG) (C : Nat → va_E) (p0 : Int) (cnt : Int) (nxt : Int) (bp : Int) (hMa : C 0 = .inr (8, [.ref (aD g 1), .ref (aD g 12), .ref (aD g 18), .ref (aD g 21), .ref (aD g 23), .ref (aD g 27)])) (hSt : C 1 = .inr (4, [.ref (aD g 2), .ref (aD g 5), .ref (aD g 9)])) (hEx : C 2 = .inr (1, [.ref (aD g 3), .ref (aD g 4), .int (iZ cnt), .int (iZ nxt), .int (iZ bp)])) (hcnt : 0 ≤ cnt ∧ cnt ≤ 30) (h_p : -2147483648 ≤ p0 ∧ p0 < 2147483648) (hlt : l.stackTraces = false) : vx_Met l yX8_checkPlace wsX8_checkPlace ({ frames := 6, cells := 1, slots := 6, locals := 82 } : Room) (zPre g C [.ref (aD g 0), .int (iZ p0)]) (zQv g (fun C' => C' = C ∧ (0 ≤ p0 ∧ p0 < cnt))) (zX g (fun E C' => E = "java/lang/IndexOutOfBoundsException" ∧ C' = C ∧ ¬ (0 ≤ p0 ∧ p0 < cnt))) 1 6 (zA g) := by
  refine z_enterX RX8 rfl (by decide) rfl (Nat.le_of_ble_eq_true rfl) ?_
  intro p e s m args below meth c K harg hne
  refine z_sub (lv' := [(0, .ref (aD g 0)), (1, .int (iZ p0))]) [0, 1] rfl ?_
  refine z_iload_n 1 K dX8_checkPlace_0 rfl rfl 1 rfl ?_
  refine z_if_lt (tgt := 18) 4 K dX8_checkPlace_1 rfl (by decide) (by omega) (fun c_1 => ?_) (fun c_1 => ?_)
  · skip
    exact z_throwW hne K hlt (cls := "java/lang/IndexOutOfBoundsException") (text := "there is no exhibit at this place") (names := ["java/lang/RuntimeException", "java/lang/Exception"]) (by decide +kernel) (by decide +kernel) (by decide +kernel) (by decide +kernel) (by decide +kernel) hat1_X8_checkPlace_18 at_IO_2 at_IO_g dX8_checkPlace_18 dX8_checkPlace_21 dX8_checkPlace_22 dX8_checkPlace_25 dX8_checkPlace_28 (Nat.le_of_ble_eq_true rfl) (Nat.le_of_ble_eq_true rfl) (Nat.le_of_ble_eq_true rfl) (Nat.le_of_ble_eq_true rfl) (Nat.le_of_ble_eq_true rfl) (Nat.le_of_ble_eq_true rfl) ⟨rfl, rfl, by omega⟩
  · skip
    refine z_iload_n 5 K dX8_checkPlace_4 rfl rfl 1 rfl ?_
    refine z_aload_n 6 K dX8_checkPlace_5 rfl rfl 0 rfl ?_
    refine z_get 9 K hin_X8_checkPlace_X8 0 (by decide) hMa rfl 0 (by decide) (by decide +kernel : Cond.fieldLink RX8 12 "BriefBuilder" "state" "LBriefBuilder$State;" ∈ wsX8_checkPlace) (fun _ h9 => h9) rfl dX8_checkPlace_6 rfl ?_
    refine z_get 12 K hin_X8_checkPlace_X4 1 (by decide) hSt rfl 0 (by decide) (by decide +kernel : Cond.fieldLink RX8 48 "BriefBuilder$State" "exhibits" "LBriefBuilder$Exhibits;" ∈ wsX8_checkPlace) (fun _ h9 => h9) rfl dX8_checkPlace_9 rfl ?_
    refine z_get 15 K hin_X8_checkPlace_X1 2 (by decide) hEx rfl 2 (by decide) (by decide +kernel : Cond.fieldLink RX8 95 "BriefBuilder$Exhibits" "count" "I" ∈ wsX8_checkPlace) (fun _ h9 => h9) rfl dX8_checkPlace_12 rfl ?_
    refine z_icmp_lt (tgt := 29) 18 K dX8_checkPlace_15 rfl (by decide) (by omega) (by omega) (fun c_15 => ?_) (fun c_15 => ?_)
    · skip
      refine z_ret ?_
      refine z_wid (kc' := 1) (ks' := 6) (by decide) (by decide) ?_
      exact z_vret K rfl dX8_checkPlace_29 ⟨rfl, by omega⟩
    · skip
      exact z_throwW hne K hlt (cls := "java/lang/IndexOutOfBoundsException") (text := "there is no exhibit at this place") (names := ["java/lang/RuntimeException", "java/lang/Exception"]) (by decide +kernel) (by decide +kernel) (by decide +kernel) (by decide +kernel) (by decide +kernel) hat1_X8_checkPlace_18 at_IO_2 at_IO_g dX8_checkPlace_18 dX8_checkPlace_21 dX8_checkPlace_22 dX8_checkPlace_25 dX8_checkPlace_28 (Nat.le_of_ble_eq_true rfl) (Nat.le_of_ble_eq_true rfl) (Nat.le_of_ble_eq_true rfl) (Nat.le_of_ble_eq_true rfl) (Nat.le_of_ble_eq_true rfl) (Nat.le_of_ble_eq_true rfl) ⟨rfl, rfl, by omega⟩
set_option maxHeartbeats 4000000 in
set_option maxRecDepth 100000 in
theorem n_X8_checkPlace (l : Launch) (g : zG) (C : Nat → va_E) (p0 : Int) (cnt : Int) (nxt : Int) (bp : Int) (hMa : C 0 = .inr (8, [.ref (aD g 1), .ref (aD g 12), .ref (aD g 18), .ref (aD g 21), .ref (aD g 23), .ref (aD g 27)])) (hSt : C 1 = .inr (4, [.ref (aD g 2), .ref (aD g 5), .ref (aD g 9)])) (hEx : C 2 = .inr (1, [.ref (aD g 3), .ref (aD g 4), .int (iZ cnt), .int (iZ nxt), .int (iZ bp)])) (hcnt : 0 ≤ cnt ∧ cnt ≤ 30) (h_p : -2147483648 ≤ p0 ∧ p0 < 2147483648) (hok : 0 ≤ p0 ∧ p0 < cnt) : Met l yX8_checkPlace wsX8_checkPlace ({ frames := 0, cells := 0, slots := 0, locals := 0 } : Room) (zPre g C [.ref (aD g 0), .int (iZ p0)]) (zQv g (fun C' => C' = C)) 0 0 (zA g) := by
  refine z_enter RX8 rfl (by decide) rfl (Nat.le_of_ble_eq_true rfl) ?_
  intro p e s m args below meth c K harg
  refine z_sub (lv' := [(0, .ref (aD g 0)), (1, .int (iZ p0))]) [0, 1] rfl ?_
  refine z_iload_n 1 K dX8_checkPlace_0 rfl rfl 1 rfl ?_
  refine z_if_lt (tgt := 18) 4 K dX8_checkPlace_1 rfl (by decide) (by omega) (fun c_1 => ?_) (fun c_1 => ?_)
  · skip
    exact absurd hok (by omega)
  · skip
    refine z_iload_n 5 K dX8_checkPlace_4 rfl rfl 1 rfl ?_
    refine z_aload_n 6 K dX8_checkPlace_5 rfl rfl 0 rfl ?_
    refine z_get 9 K hin_X8_checkPlace_X8 0 (by decide) hMa rfl 0 (by decide) (by decide +kernel : Cond.fieldLink RX8 12 "BriefBuilder" "state" "LBriefBuilder$State;" ∈ wsX8_checkPlace) (fun _ h9 => h9) rfl dX8_checkPlace_6 rfl ?_
    refine z_get 12 K hin_X8_checkPlace_X4 1 (by decide) hSt rfl 0 (by decide) (by decide +kernel : Cond.fieldLink RX8 48 "BriefBuilder$State" "exhibits" "LBriefBuilder$Exhibits;" ∈ wsX8_checkPlace) (fun _ h9 => h9) rfl dX8_checkPlace_9 rfl ?_
    refine z_get 15 K hin_X8_checkPlace_X1 2 (by decide) hEx rfl 2 (by decide) (by decide +kernel : Cond.fieldLink RX8 95 "BriefBuilder$Exhibits" "count" "I" ∈ wsX8_checkPlace) (fun _ h9 => h9) rfl dX8_checkPlace_12 rfl ?_
    refine z_icmp_lt (tgt := 29) 18 K dX8_checkPlace_15 rfl (by decide) (by omega) (by omega) (fun c_15 => ?_) (fun c_15 => ?_)
    · skip
      exact z_vret K rfl dX8_checkPlace_29 rfl
    · skip
      exact absurd hok (by omega)
set_option maxRecDepth 20000 in
theorem hin_X8_checkGap_X1 : ∀ w ∈ wsX10, w ∈ wsX8_checkGap := by decide +kernel
set_option maxRecDepth 20000 in
theorem hin_X8_checkGap_X4 : ∀ w ∈ wsX40, w ∈ wsX8_checkGap := by decide +kernel
set_option maxRecDepth 20000 in
theorem hin_X8_checkGap_X8 : ∀ w ∈ wsX80, w ∈ wsX8_checkGap := by decide +kernel
set_option maxRecDepth 20000 in
theorem hat1_X8_checkGap_18 : ∀ w ∈ (vx_atS RX8 103 "java/lang/IndexOutOfBoundsException" ["java/lang/RuntimeException", "java/lang/Exception"]).filter goodWord, w ∈ wsX8_checkGap := by decide +kernel
set_option maxHeartbeats 4000000 in
set_option maxRecDepth 100000 in
theorem m_X8_checkGap (l : Launch) (g : zG) (C : Nat → va_E) (p0 : Int) (cnt : Int) (nxt : Int) (bp : Int) (hMa : C 0 = .inr (8, [.ref (aD g 1), .ref (aD g 12), .ref (aD g 18), .ref (aD g 21), .ref (aD g 23), .ref (aD g 27)])) (hSt : C 1 = .inr (4, [.ref (aD g 2), .ref (aD g 5), .ref (aD g 9)])) (hEx : C 2 = .inr (1, [.ref (aD g 3), .ref (aD g 4), .int (iZ cnt), .int (iZ nxt), .int (iZ bp)])) (hcnt : 0 ≤ cnt ∧ cnt ≤ 30) (h_p : -2147483648 ≤ p0 ∧ p0 < 2147483648) (hlt : l.stackTraces = false) : vx_Met l yX8_checkGap wsX8_checkGap ({ frames := 6, cells := 1, slots := 6, locals := 82 } : Room) (zPre g C [.ref (aD g 0), .int (iZ p0)]) (zQv g (fun C' => C' = C ∧ (0 ≤ p0 ∧ p0 ≤ cnt))) (zX g (fun E C' => E = "java/lang/IndexOutOfBoundsException" ∧ C' = C ∧ ¬ (0 ≤ p0 ∧ p0 ≤ cnt))) 1 6 (zA g) := by
  refine z_enterX RX8 rfl (by decide) rfl (Nat.le_of_ble_eq_true rfl) ?_
  intro p e s m args below meth c K harg hne
  refine z_sub (lv' := [(0, .ref (aD g 0)), (1, .int (iZ p0))]) [0, 1] rfl ?_
  refine z_iload_n 1 K dX8_checkGap_0 rfl rfl 1 rfl ?_
  refine z_if_lt (tgt := 18) 4 K dX8_checkGap_1 rfl (by decide) (by omega) (fun c_1 => ?_) (fun c_1 => ?_)
  · skip
    exact z_throwW hne K hlt (cls := "java/lang/IndexOutOfBoundsException") (text := "no exhibit can be put at this place") (names := ["java/lang/RuntimeException", "java/lang/Exception"]) (by decide +kernel) (by decide +kernel) (by decide +kernel) (by decide +kernel) (by decide +kernel) hat1_X8_checkGap_18 at_IO_2 at_IO_g dX8_checkGap_18 dX8_checkGap_21 dX8_checkGap_22 dX8_checkGap_25 dX8_checkGap_28 (Nat.le_of_ble_eq_true rfl) (Nat.le_of_ble_eq_true rfl) (Nat.le_of_ble_eq_true rfl) (Nat.le_of_ble_eq_true rfl) (Nat.le_of_ble_eq_true rfl) (Nat.le_of_ble_eq_true rfl) ⟨rfl, rfl, by omega⟩
  · skip
    refine z_iload_n 5 K dX8_checkGap_4 rfl rfl 1 rfl ?_
    refine z_aload_n 6 K dX8_checkGap_5 rfl rfl 0 rfl ?_
    refine z_get 9 K hin_X8_checkGap_X8 0 (by decide) hMa rfl 0 (by decide) (by decide +kernel : Cond.fieldLink RX8 12 "BriefBuilder" "state" "LBriefBuilder$State;" ∈ wsX8_checkGap) (fun _ h9 => h9) rfl dX8_checkGap_6 rfl ?_
    refine z_get 12 K hin_X8_checkGap_X4 1 (by decide) hSt rfl 0 (by decide) (by decide +kernel : Cond.fieldLink RX8 48 "BriefBuilder$State" "exhibits" "LBriefBuilder$Exhibits;" ∈ wsX8_checkGap) (fun _ h9 => h9) rfl dX8_checkGap_9 rfl ?_
    refine z_get 15 K hin_X8_checkGap_X1 2 (by decide) hEx rfl 2 (by decide) (by decide +kernel : Cond.fieldLink RX8 95 "BriefBuilder$Exhibits" "count" "I" ∈ wsX8_checkGap) (fun _ h9 => h9) rfl dX8_checkGap_12 rfl ?_
    refine z_icmp_le (tgt := 29) 18 K dX8_checkGap_15 rfl (by decide) (by omega) (by omega) (fun c_15 => ?_) (fun c_15 => ?_)
    · skip
      refine z_ret ?_
      refine z_wid (kc' := 1) (ks' := 6) (by decide) (by decide) ?_
      exact z_vret K rfl dX8_checkGap_29 ⟨rfl, by omega⟩
    · skip
      exact z_throwW hne K hlt (cls := "java/lang/IndexOutOfBoundsException") (text := "no exhibit can be put at this place") (names := ["java/lang/RuntimeException", "java/lang/Exception"]) (by decide +kernel) (by decide +kernel) (by decide +kernel) (by decide +kernel) (by decide +kernel) hat1_X8_checkGap_18 at_IO_2 at_IO_g dX8_checkGap_18 dX8_checkGap_21 dX8_checkGap_22 dX8_checkGap_25 dX8_checkGap_28 (Nat.le_of_ble_eq_true rfl) (Nat.le_of_ble_eq_true rfl) (Nat.le_of_ble_eq_true rfl) (Nat.le_of_ble_eq_true rfl) (Nat.le_of_ble_eq_true rfl) (Nat.le_of_ble_eq_true rfl) ⟨rfl, rfl, by omega⟩
set_option maxHeartbeats 4000000 in
set_option maxRecDepth 100000 in
theorem n_X8_checkGap (l : Launch) (g : zG) (C : Nat → va_E) (p0 : Int) (cnt : Int) (nxt : Int) (bp : Int) (hMa : C 0 = .inr (8, [.ref (aD g 1), .ref (aD g 12), .ref (aD g 18), .ref (aD g 21), .ref (aD g 23), .ref (aD g 27)])) (hSt : C 1 = .inr (4, [.ref (aD g 2), .ref (aD g 5), .ref (aD g 9)])) (hEx : C 2 = .inr (1, [.ref (aD g 3), .ref (aD g 4), .int (iZ cnt), .int (iZ nxt), .int (iZ bp)])) (hcnt : 0 ≤ cnt ∧ cnt ≤ 30) (h_p : -2147483648 ≤ p0 ∧ p0 < 2147483648) (hok : 0 ≤ p0 ∧ p0 ≤ cnt) : Met l yX8_checkGap wsX8_checkGap ({ frames := 0, cells := 0, slots := 0, locals := 0 } : Room) (zPre g C [.ref (aD g 0), .int (iZ p0)]) (zQv g (fun C' => C' = C)) 0 0 (zA g) := by
  refine z_enter RX8 rfl (by decide) rfl (Nat.le_of_ble_eq_true rfl) ?_
  intro p e s m args below meth c K harg
  refine z_sub (lv' := [(0, .ref (aD g 0)), (1, .int (iZ p0))]) [0, 1] rfl ?_
  refine z_iload_n 1 K dX8_checkGap_0 rfl rfl 1 rfl ?_
  refine z_if_lt (tgt := 18) 4 K dX8_checkGap_1 rfl (by decide) (by omega) (fun c_1 => ?_) (fun c_1 => ?_)
  · skip
    exact absurd hok (by omega)
  · skip
    refine z_iload_n 5 K dX8_checkGap_4 rfl rfl 1 rfl ?_
    refine z_aload_n 6 K dX8_checkGap_5 rfl rfl 0 rfl ?_
    refine z_get 9 K hin_X8_checkGap_X8 0 (by decide) hMa rfl 0 (by decide) (by decide +kernel : Cond.fieldLink RX8 12 "BriefBuilder" "state" "LBriefBuilder$State;" ∈ wsX8_checkGap) (fun _ h9 => h9) rfl dX8_checkGap_6 rfl ?_
    refine z_get 12 K hin_X8_checkGap_X4 1 (by decide) hSt rfl 0 (by decide) (by decide +kernel : Cond.fieldLink RX8 48 "BriefBuilder$State" "exhibits" "LBriefBuilder$Exhibits;" ∈ wsX8_checkGap) (fun _ h9 => h9) rfl dX8_checkGap_9 rfl ?_
    refine z_get 15 K hin_X8_checkGap_X1 2 (by decide) hEx rfl 2 (by decide) (by decide +kernel : Cond.fieldLink RX8 95 "BriefBuilder$Exhibits" "count" "I" ∈ wsX8_checkGap) (fun _ h9 => h9) rfl dX8_checkGap_12 rfl ?_
    refine z_icmp_le (tgt := 29) 18 K dX8_checkGap_15 rfl (by decide) (by omega) (by omega) (fun c_15 => ?_) (fun c_15 => ?_)
    · skip
      exact z_vret K rfl dX8_checkGap_29 rfl
    · skip
      exact absurd hok (by omega)
set_option maxRecDepth 20000 in
theorem hin_X8_checkRoomForExhibit_X1 : ∀ w ∈ wsX10, w ∈ wsX8_checkRoomForExhibit := by decide +kernel
set_option maxRecDepth 20000 in
theorem hin_X8_checkRoomForExhibit_X4 : ∀ w ∈ wsX40, w ∈ wsX8_checkRoomForExhibit := by decide +kernel
set_option maxRecDepth 20000 in
theorem hin_X8_checkRoomForExhibit_X8 : ∀ w ∈ wsX80, w ∈ wsX8_checkRoomForExhibit := by decide +kernel
set_option maxRecDepth 20000 in
theorem hat1_X8_checkRoomForExhibit_15 : ∀ w ∈ (vx_atS RX8 110 "java/lang/IllegalStateException" ["java/lang/RuntimeException", "java/lang/Exception"]).filter goodWord, w ∈ wsX8_checkRoomForExhibit := by decide +kernel
set_option maxHeartbeats 4000000 in
set_option maxRecDepth 100000 in
theorem m_X8_checkRoomForExhibit (l : Launch) (g : zG) (C : Nat → va_E) (cnt : Int) (nxt : Int) (bp : Int) (hMa : C 0 = .inr (8, [.ref (aD g 1), .ref (aD g 12), .ref (aD g 18), .ref (aD g 21), .ref (aD g 23), .ref (aD g 27)])) (hSt : C 1 = .inr (4, [.ref (aD g 2), .ref (aD g 5), .ref (aD g 9)])) (hEx : C 2 = .inr (1, [.ref (aD g 3), .ref (aD g 4), .int (iZ cnt), .int (iZ nxt), .int (iZ bp)])) (hcnt : 0 ≤ cnt ∧ cnt ≤ 30) (hlt : l.stackTraces = false) : vx_Met l yX8_checkRoomForExhibit wsX8_checkRoomForExhibit ({ frames := 6, cells := 1, slots := 6, locals := 82 } : Room) (zPre g C [.ref (aD g 0)]) (zQv g (fun C' => C' = C ∧ (cnt ≤ 29))) (zX g (fun E C' => E = "java/lang/IllegalStateException" ∧ C' = C ∧ ¬ (cnt ≤ 29))) 1 6 (zA g) := by
  refine z_enterX RX8 rfl (by decide) rfl (Nat.le_of_ble_eq_true rfl) ?_
  intro p e s m args below meth c K harg hne
  refine z_sub (lv' := [(0, .ref (aD g 0))]) [0] rfl ?_
  refine z_aload_n 1 K dX8_checkRoomForExhibit_0 rfl rfl 0 rfl ?_
  refine z_get 4 K hin_X8_checkRoomForExhibit_X8 0 (by decide) hMa rfl 0 (by decide) (by decide +kernel : Cond.fieldLink RX8 12 "BriefBuilder" "state" "LBriefBuilder$State;" ∈ wsX8_checkRoomForExhibit) (fun _ h9 => h9) rfl dX8_checkRoomForExhibit_1 rfl ?_
  refine z_get 7 K hin_X8_checkRoomForExhibit_X4 1 (by decide) hSt rfl 0 (by decide) (by decide +kernel : Cond.fieldLink RX8 48 "BriefBuilder$State" "exhibits" "LBriefBuilder$Exhibits;" ∈ wsX8_checkRoomForExhibit) (fun _ h9 => h9) rfl dX8_checkRoomForExhibit_4 rfl ?_
  refine z_get 10 K hin_X8_checkRoomForExhibit_X1 2 (by decide) hEx rfl 2 (by decide) (by decide +kernel : Cond.fieldLink RX8 95 "BriefBuilder$Exhibits" "count" "I" ∈ wsX8_checkRoomForExhibit) (fun _ h9 => h9) rfl dX8_checkRoomForExhibit_7 rfl ?_
  refine z_bipush 12 K dX8_checkRoomForExhibit_10 rfl rfl ?_
  refine z_icmp_lt (tgt := 26) 15 K dX8_checkRoomForExhibit_12 rfl (by decide) (by omega) (by decide) (fun c_12 => ?_) (fun c_12 => ?_)
  · skip
    refine z_ret ?_
    refine z_wid (kc' := 1) (ks' := 6) (by decide) (by decide) ?_
    exact z_vret K rfl dX8_checkRoomForExhibit_26 ⟨rfl, by omega⟩
  · skip
    exact z_throwW hne K hlt (cls := "java/lang/IllegalStateException") (text := "there are all exhibits that there may be") (names := ["java/lang/RuntimeException", "java/lang/Exception"]) (by decide +kernel) (by decide +kernel) (by decide +kernel) (by decide +kernel) (by decide +kernel) hat1_X8_checkRoomForExhibit_15 at_IS_2 at_IS_g dX8_checkRoomForExhibit_15 dX8_checkRoomForExhibit_18 dX8_checkRoomForExhibit_19 dX8_checkRoomForExhibit_22 dX8_checkRoomForExhibit_25 (Nat.le_of_ble_eq_true rfl) (Nat.le_of_ble_eq_true rfl) (Nat.le_of_ble_eq_true rfl) (Nat.le_of_ble_eq_true rfl) (Nat.le_of_ble_eq_true rfl) (Nat.le_of_ble_eq_true rfl) ⟨rfl, rfl, by omega⟩
set_option maxHeartbeats 4000000 in
set_option maxRecDepth 100000 in
theorem n_X8_checkRoomForExhibit (l : Launch) (g : zG) (C : Nat → va_E) (cnt : Int) (nxt : Int) (bp : Int) (hMa : C 0 = .inr (8, [.ref (aD g 1), .ref (aD g 12), .ref (aD g 18), .ref (aD g 21), .ref (aD g 23), .ref (aD g 27)])) (hSt : C 1 = .inr (4, [.ref (aD g 2), .ref (aD g 5), .ref (aD g 9)])) (hEx : C 2 = .inr (1, [.ref (aD g 3), .ref (aD g 4), .int (iZ cnt), .int (iZ nxt), .int (iZ bp)])) (hcnt : 0 ≤ cnt ∧ cnt ≤ 30) (hok : cnt ≤ 29) : Met l yX8_checkRoomForExhibit wsX8_checkRoomForExhibit ({ frames := 0, cells := 0, slots := 0, locals := 0 } : Room) (zPre g C [.ref (aD g 0)]) (zQv g (fun C' => C' = C)) 0 0 (zA g) := by
  refine z_enter RX8 rfl (by decide) rfl (Nat.le_of_ble_eq_true rfl) ?_
  intro p e s m args below meth c K harg
  refine z_sub (lv' := [(0, .ref (aD g 0))]) [0] rfl ?_
  refine z_aload_n 1 K dX8_checkRoomForExhibit_0 rfl rfl 0 rfl ?_
  refine z_get 4 K hin_X8_checkRoomForExhibit_X8 0 (by decide) hMa rfl 0 (by decide) (by decide +kernel : Cond.fieldLink RX8 12 "BriefBuilder" "state" "LBriefBuilder$State;" ∈ wsX8_checkRoomForExhibit) (fun _ h9 => h9) rfl dX8_checkRoomForExhibit_1 rfl ?_
  refine z_get 7 K hin_X8_checkRoomForExhibit_X4 1 (by decide) hSt rfl 0 (by decide) (by decide +kernel : Cond.fieldLink RX8 48 "BriefBuilder$State" "exhibits" "LBriefBuilder$Exhibits;" ∈ wsX8_checkRoomForExhibit) (fun _ h9 => h9) rfl dX8_checkRoomForExhibit_4 rfl ?_
  refine z_get 10 K hin_X8_checkRoomForExhibit_X1 2 (by decide) hEx rfl 2 (by decide) (by decide +kernel : Cond.fieldLink RX8 95 "BriefBuilder$Exhibits" "count" "I" ∈ wsX8_checkRoomForExhibit) (fun _ h9 => h9) rfl dX8_checkRoomForExhibit_7 rfl ?_
  refine z_bipush 12 K dX8_checkRoomForExhibit_10 rfl rfl ?_
  refine z_icmp_lt (tgt := 26) 15 K dX8_checkRoomForExhibit_12 rfl (by decide) (by omega) (by decide) (fun c_12 => ?_) (fun c_12 => ?_)
  · skip
    exact z_vret K rfl dX8_checkRoomForExhibit_26 rfl
  · skip
    exact absurd hok (by omega)
set_option maxRecDepth 20000 in
theorem hat1_X8_checkParagraph_10 : ∀ w ∈ (vx_atS RX8 103 "java/lang/IndexOutOfBoundsException" ["java/lang/RuntimeException", "java/lang/Exception"]).filter goodWord, w ∈ wsX8_checkParagraph := by decide +kernel
set_option maxHeartbeats 4000000 in
set_option maxRecDepth 100000 in
theorem m_X8_checkParagraph (l : Launch) (g : zG) (C : Nat → va_E) (a : Int) (h_a : -2147483648 ≤ a ∧ a < 2147483648) (hlt : l.stackTraces = false) : vx_Met l yX8_checkParagraph wsX8_checkParagraph ({ frames := 6, cells := 1, slots := 6, locals := 82 } : Room) (zPre g C [.int (iZ a)]) (zQv g (fun C' => C' = C ∧ (0 ≤ a ∧ a < 12))) (zX g (fun E C' => E = "java/lang/IndexOutOfBoundsException" ∧ C' = C ∧ ¬ (0 ≤ a ∧ a < 12))) 1 6 (zA g) := by
  refine z_enterX RX8 rfl (by decide) rfl (Nat.le_of_ble_eq_true rfl) ?_
  intro p e s m args below meth c K harg hne
  refine z_sub (lv' := [(0, .int (iZ a))]) [0] rfl ?_
  refine z_iload_n 1 K dX8_checkParagraph_0 rfl rfl 0 rfl ?_
  refine z_if_lt (tgt := 10) 4 K dX8_checkParagraph_1 rfl (by decide) (by omega) (fun c_1 => ?_) (fun c_1 => ?_)
  · skip
    exact z_throwW hne K hlt (cls := "java/lang/IndexOutOfBoundsException") (text := "there is no such paragraph") (names := ["java/lang/RuntimeException", "java/lang/Exception"]) (by decide +kernel) (by decide +kernel) (by decide +kernel) (by decide +kernel) (by decide +kernel) hat1_X8_checkParagraph_10 at_IO_2 at_IO_g dX8_checkParagraph_10 dX8_checkParagraph_13 dX8_checkParagraph_14 dX8_checkParagraph_17 dX8_checkParagraph_20 (Nat.le_of_ble_eq_true rfl) (Nat.le_of_ble_eq_true rfl) (Nat.le_of_ble_eq_true rfl) (Nat.le_of_ble_eq_true rfl) (Nat.le_of_ble_eq_true rfl) (Nat.le_of_ble_eq_true rfl) ⟨rfl, rfl, by omega⟩
  · skip
    refine z_iload_n 5 K dX8_checkParagraph_4 rfl rfl 0 rfl ?_
    refine z_bipush 7 K dX8_checkParagraph_5 rfl rfl ?_
    refine z_icmp_lt (tgt := 21) 10 K dX8_checkParagraph_7 rfl (by decide) (by omega) (by decide) (fun c_7 => ?_) (fun c_7 => ?_)
    · skip
      refine z_ret ?_
      refine z_wid (kc' := 1) (ks' := 6) (by decide) (by decide) ?_
      exact z_vret K rfl dX8_checkParagraph_21 ⟨rfl, by omega⟩
    · skip
      exact z_throwW hne K hlt (cls := "java/lang/IndexOutOfBoundsException") (text := "there is no such paragraph") (names := ["java/lang/RuntimeException", "java/lang/Exception"]) (by decide +kernel) (by decide +kernel) (by decide +kernel) (by decide +kernel) (by decide +kernel) hat1_X8_checkParagraph_10 at_IO_2 at_IO_g dX8_checkParagraph_10 dX8_checkParagraph_13 dX8_checkParagraph_14 dX8_checkParagraph_17 dX8_checkParagraph_20 (Nat.le_of_ble_eq_true rfl) (Nat.le_of_ble_eq_true rfl) (Nat.le_of_ble_eq_true rfl) (Nat.le_of_ble_eq_true rfl) (Nat.le_of_ble_eq_true rfl) (Nat.le_of_ble_eq_true rfl) ⟨rfl, rfl, by omega⟩
set_option maxHeartbeats 4000000 in
set_option maxRecDepth 100000 in
theorem n_X8_checkParagraph (l : Launch) (g : zG) (C : Nat → va_E) (a : Int) (h_a : -2147483648 ≤ a ∧ a < 2147483648) (hok : 0 ≤ a ∧ a < 12) : Met l yX8_checkParagraph wsX8_checkParagraph ({ frames := 0, cells := 0, slots := 0, locals := 0 } : Room) (zPre g C [.int (iZ a)]) (zQv g (fun C' => C' = C)) 0 0 (zA g) := by
  refine z_enter RX8 rfl (by decide) rfl (Nat.le_of_ble_eq_true rfl) ?_
  intro p e s m args below meth c K harg
  refine z_sub (lv' := [(0, .int (iZ a))]) [0] rfl ?_
  refine z_iload_n 1 K dX8_checkParagraph_0 rfl rfl 0 rfl ?_
  refine z_if_lt (tgt := 10) 4 K dX8_checkParagraph_1 rfl (by decide) (by omega) (fun c_1 => ?_) (fun c_1 => ?_)
  · skip
    exact absurd hok (by omega)
  · skip
    refine z_iload_n 5 K dX8_checkParagraph_4 rfl rfl 0 rfl ?_
    refine z_bipush 7 K dX8_checkParagraph_5 rfl rfl ?_
    refine z_icmp_lt (tgt := 21) 10 K dX8_checkParagraph_7 rfl (by decide) (by omega) (by decide) (fun c_7 => ?_) (fun c_7 => ?_)
    · skip
      exact z_vret K rfl dX8_checkParagraph_21 rfl
    · skip
      exact absurd hok (by omega)
set_option maxRecDepth 20000 in
theorem hat1_X8_checkPages_11 : ∀ w ∈ (vx_atS RX8 124 "java/lang/IllegalArgumentException" ["java/lang/RuntimeException", "java/lang/Exception"]).filter goodWord, w ∈ wsX8_checkPages := by decide +kernel
set_option maxHeartbeats 4000000 in
set_option maxRecDepth 100000 in
theorem m_X8_checkPages (l : Launch) (g : zG) (C : Nat → va_E) (y : Int) (h_y : -2147483648 ≤ y ∧ y < 2147483648) (hlt : l.stackTraces = false) : vx_Met l yX8_checkPages wsX8_checkPages ({ frames := 6, cells := 1, slots := 6, locals := 82 } : Room) (zPre g C [.int (iZ y)]) (zQv g (fun C' => C' = C ∧ (1 ≤ y ∧ y ≤ 60))) (zX g (fun E C' => E = "java/lang/IllegalArgumentException" ∧ C' = C ∧ ¬ (1 ≤ y ∧ y ≤ 60))) 1 6 (zA g) := by
  refine z_enterX RX8 rfl (by decide) rfl (Nat.le_of_ble_eq_true rfl) ?_
  intro p e s m args below meth c K harg hne
  refine z_sub (lv' := [(0, .int (iZ y))]) [0] rfl ?_
  refine z_iload_n 1 K dX8_checkPages_0 rfl rfl 0 rfl ?_
  refine z_iconst 2 K dX8_checkPages_1 rfl ?_
  refine z_icmp_lt (tgt := 11) 5 K dX8_checkPages_2 rfl (by decide) (by omega) (by decide) (fun c_2 => ?_) (fun c_2 => ?_)
  · skip
    exact z_throwW hne K hlt (cls := "java/lang/IllegalArgumentException") (text := "pages are 1 to 60") (names := ["java/lang/RuntimeException", "java/lang/Exception"]) (by decide +kernel) (by decide +kernel) (by decide +kernel) (by decide +kernel) (by decide +kernel) hat1_X8_checkPages_11 at_IA_2 at_IA_g dX8_checkPages_11 dX8_checkPages_14 dX8_checkPages_15 dX8_checkPages_18 dX8_checkPages_21 (Nat.le_of_ble_eq_true rfl) (Nat.le_of_ble_eq_true rfl) (Nat.le_of_ble_eq_true rfl) (Nat.le_of_ble_eq_true rfl) (Nat.le_of_ble_eq_true rfl) (Nat.le_of_ble_eq_true rfl) ⟨rfl, rfl, by omega⟩
  · skip
    refine z_iload_n 6 K dX8_checkPages_5 rfl rfl 0 rfl ?_
    refine z_bipush 8 K dX8_checkPages_6 rfl rfl ?_
    refine z_icmp_le (tgt := 22) 11 K dX8_checkPages_8 rfl (by decide) (by omega) (by decide) (fun c_8 => ?_) (fun c_8 => ?_)
    · skip
      refine z_ret ?_
      refine z_wid (kc' := 1) (ks' := 6) (by decide) (by decide) ?_
      exact z_vret K rfl dX8_checkPages_22 ⟨rfl, by omega⟩
    · skip
      exact z_throwW hne K hlt (cls := "java/lang/IllegalArgumentException") (text := "pages are 1 to 60") (names := ["java/lang/RuntimeException", "java/lang/Exception"]) (by decide +kernel) (by decide +kernel) (by decide +kernel) (by decide +kernel) (by decide +kernel) hat1_X8_checkPages_11 at_IA_2 at_IA_g dX8_checkPages_11 dX8_checkPages_14 dX8_checkPages_15 dX8_checkPages_18 dX8_checkPages_21 (Nat.le_of_ble_eq_true rfl) (Nat.le_of_ble_eq_true rfl) (Nat.le_of_ble_eq_true rfl) (Nat.le_of_ble_eq_true rfl) (Nat.le_of_ble_eq_true rfl) (Nat.le_of_ble_eq_true rfl) ⟨rfl, rfl, by omega⟩
set_option maxHeartbeats 4000000 in
set_option maxRecDepth 100000 in
theorem n_X8_checkPages (l : Launch) (g : zG) (C : Nat → va_E) (y : Int) (h_y : -2147483648 ≤ y ∧ y < 2147483648) (hok : 1 ≤ y ∧ y ≤ 60) : Met l yX8_checkPages wsX8_checkPages ({ frames := 0, cells := 0, slots := 0, locals := 0 } : Room) (zPre g C [.int (iZ y)]) (zQv g (fun C' => C' = C)) 0 0 (zA g) := by
  refine z_enter RX8 rfl (by decide) rfl (Nat.le_of_ble_eq_true rfl) ?_
  intro p e s m args below meth c K harg
  refine z_sub (lv' := [(0, .int (iZ y))]) [0] rfl ?_
  refine z_iload_n 1 K dX8_checkPages_0 rfl rfl 0 rfl ?_
  refine z_iconst 2 K dX8_checkPages_1 rfl ?_
  refine z_icmp_lt (tgt := 11) 5 K dX8_checkPages_2 rfl (by decide) (by omega) (by decide) (fun c_2 => ?_) (fun c_2 => ?_)
  · skip
    exact absurd hok (by omega)
  · skip
    refine z_iload_n 6 K dX8_checkPages_5 rfl rfl 0 rfl ?_
    refine z_bipush 8 K dX8_checkPages_6 rfl rfl ?_
    refine z_icmp_le (tgt := 22) 11 K dX8_checkPages_8 rfl (by decide) (by omega) (by decide) (fun c_8 => ?_) (fun c_8 => ?_)
    · skip
      exact z_vret K rfl dX8_checkPages_22 rfl
    · skip
      exact absurd hok (by omega)
set_option maxRecDepth 20000 in
theorem hat1_X8_checkWhat_9 : ∀ w ∈ (vx_atS RX8 124 "java/lang/IllegalArgumentException" ["java/lang/RuntimeException", "java/lang/Exception"]).filter goodWord, w ∈ wsX8_checkWhat := by decide +kernel
set_option maxHeartbeats 4000000 in
set_option maxRecDepth 100000 in
theorem m_X8_checkWhat (l : Launch) (g : zG) (C : Nat → va_E) (w : Int) (mo : Int) (h_w : -2147483648 ≤ w ∧ w < 2147483648) (h_mo : 0 ≤ mo ∧ mo ≤ 10) (hlt : l.stackTraces = false) : vx_Met l yX8_checkWhat wsX8_checkWhat ({ frames := 6, cells := 1, slots := 6, locals := 82 } : Room) (zPre g C [.int (iZ w), .int (iZ mo)]) (zQv g (fun C' => C' = C ∧ (0 ≤ w ∧ w ≤ mo))) (zX g (fun E C' => E = "java/lang/IllegalArgumentException" ∧ C' = C ∧ ¬ (0 ≤ w ∧ w ≤ mo))) 1 6 (zA g) := by
  refine z_enterX RX8 rfl (by decide) rfl (Nat.le_of_ble_eq_true rfl) ?_
  intro p e s m args below meth c K harg hne
  refine z_sub (lv' := [(0, .int (iZ w)), (1, .int (iZ mo))]) [0, 1] rfl ?_
  refine z_iload_n 1 K dX8_checkWhat_0 rfl rfl 0 rfl ?_
  refine z_if_lt (tgt := 9) 4 K dX8_checkWhat_1 rfl (by decide) (by omega) (fun c_1 => ?_) (fun c_1 => ?_)
  · skip
    exact z_throwW hne K hlt (cls := "java/lang/IllegalArgumentException") (text := "there is no such number to tell") (names := ["java/lang/RuntimeException", "java/lang/Exception"]) (by decide +kernel) (by decide +kernel) (by decide +kernel) (by decide +kernel) (by decide +kernel) hat1_X8_checkWhat_9 at_IA_2 at_IA_g dX8_checkWhat_9 dX8_checkWhat_12 dX8_checkWhat_13 dX8_checkWhat_16 dX8_checkWhat_19 (Nat.le_of_ble_eq_true rfl) (Nat.le_of_ble_eq_true rfl) (Nat.le_of_ble_eq_true rfl) (Nat.le_of_ble_eq_true rfl) (Nat.le_of_ble_eq_true rfl) (Nat.le_of_ble_eq_true rfl) ⟨rfl, rfl, by omega⟩
  · skip
    refine z_iload_n 5 K dX8_checkWhat_4 rfl rfl 0 rfl ?_
    refine z_iload_n 6 K dX8_checkWhat_5 rfl rfl 1 rfl ?_
    refine z_icmp_le (tgt := 20) 9 K dX8_checkWhat_6 rfl (by decide) (by omega) (by omega) (fun c_6 => ?_) (fun c_6 => ?_)
    · skip
      refine z_ret ?_
      refine z_wid (kc' := 1) (ks' := 6) (by decide) (by decide) ?_
      exact z_vret K rfl dX8_checkWhat_20 ⟨rfl, by omega⟩
    · skip
      exact z_throwW hne K hlt (cls := "java/lang/IllegalArgumentException") (text := "there is no such number to tell") (names := ["java/lang/RuntimeException", "java/lang/Exception"]) (by decide +kernel) (by decide +kernel) (by decide +kernel) (by decide +kernel) (by decide +kernel) hat1_X8_checkWhat_9 at_IA_2 at_IA_g dX8_checkWhat_9 dX8_checkWhat_12 dX8_checkWhat_13 dX8_checkWhat_16 dX8_checkWhat_19 (Nat.le_of_ble_eq_true rfl) (Nat.le_of_ble_eq_true rfl) (Nat.le_of_ble_eq_true rfl) (Nat.le_of_ble_eq_true rfl) (Nat.le_of_ble_eq_true rfl) (Nat.le_of_ble_eq_true rfl) ⟨rfl, rfl, by omega⟩
set_option maxHeartbeats 4000000 in
set_option maxRecDepth 100000 in
theorem n_X8_checkWhat (l : Launch) (g : zG) (C : Nat → va_E) (w : Int) (mo : Int) (h_w : -2147483648 ≤ w ∧ w < 2147483648) (h_mo : 0 ≤ mo ∧ mo ≤ 10) (hok : 0 ≤ w ∧ w ≤ mo) : Met l yX8_checkWhat wsX8_checkWhat ({ frames := 0, cells := 0, slots := 0, locals := 0 } : Room) (zPre g C [.int (iZ w), .int (iZ mo)]) (zQv g (fun C' => C' = C)) 0 0 (zA g) := by
  refine z_enter RX8 rfl (by decide) rfl (Nat.le_of_ble_eq_true rfl) ?_
  intro p e s m args below meth c K harg
  refine z_sub (lv' := [(0, .int (iZ w)), (1, .int (iZ mo))]) [0, 1] rfl ?_
  refine z_iload_n 1 K dX8_checkWhat_0 rfl rfl 0 rfl ?_
  refine z_if_lt (tgt := 9) 4 K dX8_checkWhat_1 rfl (by decide) (by omega) (fun c_1 => ?_) (fun c_1 => ?_)
  · skip
    exact absurd hok (by omega)
  · skip
    refine z_iload_n 5 K dX8_checkWhat_4 rfl rfl 0 rfl ?_
    refine z_iload_n 6 K dX8_checkWhat_5 rfl rfl 1 rfl ?_
    refine z_icmp_le (tgt := 20) 9 K dX8_checkWhat_6 rfl (by decide) (by omega) (by omega) (fun c_6 => ?_) (fun c_6 => ?_)
    · skip
      exact z_vret K rfl dX8_checkWhat_20 rfl
    · skip
      exact absurd hok (by omega)
end ZCK
