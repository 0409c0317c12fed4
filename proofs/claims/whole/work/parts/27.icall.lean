/-! the class: calls that do not throw -/
section ZIC
set_option maxRecDepth 20000 in
theorem hin_X8_clearBuffer_X5 : ∀ w ∈ wsX50, w ∈ wsX8_clearBuffer := by decide +kernel
set_option maxRecDepth 20000 in
theorem hin_X8_clearBuffer_X8 : ∀ w ∈ wsX80, w ∈ wsX8_clearBuffer := by decide +kernel
set_option maxHeartbeats 4000000 in
set_option maxRecDepth 100000 in
theorem m_X8_clearBuffer (l : Launch) (g : zG) (C : Nat → va_E) (len : Int) (cur : Int) (stp : Int) (hMa : C 0 = .inr (8, [.ref (aD g 1), .ref (aD g 12), .ref (aD g 18), .ref (aD g 21), .ref (aD g 23), .ref (aD g 27)])) (hTx : C 23 = .inr (5, [.ref (aD g 24), .int (iZ len), .ref (aD g 25), .ref (aD g 26), .int (iZ cur), .int (iZ stp)])) (hln : 0 ≤ len ∧ len ≤ 60) : Met l yX8_clearBuffer wsX8_clearBuffer ({ frames := 0, cells := 0, slots := 0, locals := 0 } : Room) (zPre g C [.ref (aD g 0)]) (zQi g (fun z C' => C' = va_up C 23 (.inr (5, [.ref (aD g 24), .int (iZ 0), .ref (aD g 25), .ref (aD g 26), .int (iZ cur), .int (iZ stp)])) ∧ z = len)) 0 0 (zA g) := by
  refine z_enter RX8 rfl (by decide) rfl (Nat.le_of_ble_eq_true rfl) ?_
  intro p e s m args below meth c K harg
  refine z_sub (lv' := [(0, .ref (aD g 0))]) [0] rfl ?_
  refine z_aload_n 1 K dX8_clearBuffer_0 rfl rfl 0 rfl ?_
  refine z_get 4 K hin_X8_clearBuffer_X8 0 (by decide) hMa rfl 4 (by decide) (by decide +kernel : Cond.fieldLink RX8 40 "BriefBuilder" "text" "LBriefBuilder$Text;" ∈ wsX8_clearBuffer) (fun _ h9 => h9) rfl dX8_clearBuffer_1 rfl ?_
  refine z_get 7 K hin_X8_clearBuffer_X5 23 (by decide) hTx rfl 1 (by decide) (by decide +kernel : Cond.fieldLink RX8 179 "BriefBuilder$Text" "length" "I" ∈ wsX8_clearBuffer) (fun _ h9 => h9) rfl dX8_clearBuffer_4 rfl ?_
  refine z_istore_n (lv' := [(1, .int (iZ len)), (0, .ref (aD g 0))]) 8 K dX8_clearBuffer_7 rfl rfl (by decide) rfl ?_
  refine z_aload_n 9 K dX8_clearBuffer_8 rfl rfl 1 rfl ?_
  refine z_get 12 K hin_X8_clearBuffer_X8 0 (by decide) hMa rfl 4 (by decide) (by decide +kernel : Cond.fieldLink RX8 40 "BriefBuilder" "text" "LBriefBuilder$Text;" ∈ wsX8_clearBuffer) (fun _ h9 => h9) rfl dX8_clearBuffer_9 rfl ?_
  refine z_iconst 13 K dX8_clearBuffer_12 rfl ?_
  refine z_put (ty := .int) 16 K hin_X8_clearBuffer_X5 tyX5 tyX5_ok nmX5 23 (by decide) hTx rfl 1 (by decide) (by decide +kernel : Cond.fieldLink RX8 179 "BriefBuilder$Text" "length" "I" ∈ wsX8_clearBuffer) (fun _ h9 => h9) rfl (by decide +kernel) rfl rfl (Nat.le_of_ble_eq_true rfl) dX8_clearBuffer_13 rfl ?_
  show Z p l e (({ frames := 0, cells := 0, slots := 0, locals := 0 } : Room)) s m args below meth c (MQ below (zQi g (fun z C' => C' = va_up C 23 (.inr (5, [.ref (aD g 24), .int (iZ 0), .ref (aD g 25), .ref (aD g 26), .int (iZ cur), .int (iZ stp)])) ∧ z = len)) args s 0 0 (zA g)) g _ _ _ (va_up C 23 (.inr (5, [.ref (aD g 24), .int (iZ 0), .ref (aD g 25), .ref (aD g 26), .int (iZ cur), .int (iZ stp)]))) [(1, .int (iZ len)), (0, .ref (aD g 0))] 16 []
  refine z_iload_n 17 K dX8_clearBuffer_16 rfl rfl 0 rfl ?_
  exact z_iret K rfl dX8_clearBuffer_17 ⟨rfl, rfl⟩
set_option maxRecDepth 20000 in
theorem hin_X8_firstError_X8 : ∀ w ∈ wsX80, w ∈ wsX8_firstError := by decide +kernel
set_option maxHeartbeats 4000000 in
set_option maxRecDepth 100000 in
theorem m_X8_firstError (l : Launch) (g : zG) (C : Nat → va_E) (len : Int) (cur : Int) (stp : Int) (cds : Int → Int) (pl : Int → Int) (px : Int → Int) (hMa : C 0 = .inr (8, [.ref (aD g 1), .ref (aD g 12), .ref (aD g 18), .ref (aD g 21), .ref (aD g 23), .ref (aD g 27)])) (hTx : C 23 = .inr (5, [.ref (aD g 24), .int (iZ len), .ref (aD g 25), .ref (aD g 26), .int (iZ cur), .int (iZ stp)])) (hXc : C 24 = eI g 60 cds) (hXl : C 25 = eI g 6 pl) (hXp : C 26 = eI g 6 px) (hln : 0 ≤ len ∧ len ≤ 60) (hpx : ∀ j, 0 ≤ px j ∧ px j ≤ 60) (hcd : ∀ j, 0 ≤ j → j < len → 0 ≤ cds j ∧ cds j ≤ 200) : Met l yX8_firstError wsX8_firstError ({ frames := 4, cells := 0, slots := 0, locals := 85 } : Room) (zPre g C [.ref (aD g 0)]) (zQi g (fun z C' => C' = va_up (va_up (va_up C 25 (eI g 6 ((aAll cds len pl px).2.2.2.1))) 26 (eI g 6 ((aAll cds len pl px).2.2.2.2))) 23 (.inr (5, [.ref (aD g 24), .int (iZ len), .ref (aD g 25), .ref (aD g 26), .int (iZ ((aAll cds len pl px).2.2.1)), .int (iZ ((aAll cds len pl px).2.1))])) ∧ z = (aAll cds len pl px).1)) 0 0 (zA g) := by
  refine z_enter RX8 rfl (by decide) rfl (Nat.le_of_ble_eq_true rfl) ?_
  intro p e s m args below meth c K harg
  refine z_sub (lv' := [(0, .ref (aD g 0))]) [0] rfl ?_
  refine z_aload_n 1 K dX8_firstError_0 rfl rfl 0 rfl ?_
  refine z_get 4 K hin_X8_firstError_X8 0 (by decide) hMa rfl 4 (by decide) (by decide +kernel : Cond.fieldLink RX8 40 "BriefBuilder" "text" "LBriefBuilder$Text;" ∈ wsX8_firstError) (fun _ h9 => h9) rfl dX8_firstError_1 rfl ?_
  refine z_vVi (As := []) (rest := []) 7 K 23 (by decide) hTx rfl rfl (m_X5_read l g _ len cur stp cds pl px hTx hXc hXl hXp (by omega) hpx hcd) (cwV 0 K.1.2.2.2.2 gX8_firstError_X5_read rfl rfl rfl (by decide +kernel) ⟨Nat.le_of_ble_eq_true rfl, Nat.le_of_ble_eq_true rfl⟩) rfl (Nat.le_of_ble_eq_true rfl) dX8_firstError_4 rfl ⟨Nat.le_of_ble_eq_true rfl, Nat.le_of_ble_eq_true rfl⟩ rfl (fun z_1 C_2 hp_4 => ?_)
  refine z_C hp_4.1 ?_
  refine z_top ((aAll cds len pl px).1) hp_4.2 ?_
  exact z_iret K rfl dX8_firstError_7 ⟨rfl, rfl⟩
end ZIC
